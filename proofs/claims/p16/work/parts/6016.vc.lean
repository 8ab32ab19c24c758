section
set_option maxHeartbeats 4000000 in
set_option maxRecDepth 100000 in
theorem ok_X6_copyFrom_s56_s1 (q : dK) (hT : TC q) : dOk (zX6_copyFrom_s56_s1 q) (fun (o : dK) => (TC o) ∧ (cFr [58, 59, 60, 61, 62] [(56, 1), (56, 2), (56, 3), (56, 6), (56, 8), (56, 9), (57, 2), (57, 3), (57, 4)] q o) ∧ (Int32.toInt (o.1 56 6) = Int32.toInt (q.1 1 6)) ∧ (Int32.toInt (o.1 56 1) = Int32.toInt (q.1 1 1))) := by
  unfold zX6_copyFrom_s56_s1
  refine dOk_B (ok_X8_pack_s2 q hT) (fun r_1 q_2 h_3 => ?_)
  replace h_3 : (q_2 = q) ∧ (0 ≤ Int64.toInt r_1) := h_3
  obtain ⟨i_4, i_5⟩ := h_3
  subst q_2
  refine dOk_V (ok_X8_unpack_s57 q (r_1) hT (show 0 ≤ Int64.toInt (r_1) by omega)) (fun q_6 h_7 => ?_)
  replace h_7 : (TC q_6) ∧ (cFr [58, 59] [(57, 2), (57, 3), (57, 4)] q q_6) := h_7
  obtain ⟨i_8, i_9⟩ := h_7
  have hFq_6 : cFr [58, 59, 60, 61, 62] [(56, 1), (56, 2), (56, 3), (56, 6), (56, 8), (56, 9), (57, 2), (57, 3), (57, 4)] q q_6 := (cFr.rf (q := q)).t i_9 (by decide) (by decide)
  refine dOk_L (fun q_10 eq_10 => ?_)
  have f_11 : 0 ≤ Int32.toInt (q_6.1 1 1) ∧ Int32.toInt (q_6.1 1 1) ≤ 10 := rg_1_1 i_8
  have f_12 : 0 ≤ Int32.toInt (q.1 1 1) ∧ Int32.toInt (q.1 1 1) ≤ 10 := rg_1_1 hT
  have w_13 : Int32.toInt (q_6.1 1 1) = Int32.toInt (q.1 1 1) := by rw [i_9.1 1 1 (by decide) (by decide)]
  have hTq_10 : TC q_10 := by rw [eq_10]; exact st_56_1 i_8 (show (0 : Int) ≤ Int32.toInt (q_6.1 1 1) by omega) (show Int32.toInt (q_6.1 1 1) ≤ (10 : Int) by omega)
  have hFq_10 : cFr [58, 59, 60, 61, 62] [(56, 1), (56, 2), (56, 3), (56, 6), (56, 8), (56, 9), (57, 2), (57, 3), (57, 4)] q q_10 := by rw [eq_10]; exact hFq_6.f (by decide)
  refine dOk_L (fun q_14 eq_14 => ?_)
  have w_15 : Int32.toInt (q_6.1 1 2) = Int32.toInt (q.1 1 2) := by rw [i_9.1 1 2 (by decide) (by decide)]
  have w_16 : Int32.toInt (q_10.1 1 2) = Int32.toInt (q_6.1 1 2) := by rw [eq_10, cui_o (by decide)]
  have hTq_14 : TC q_14 := by rw [eq_14]; exact sa_56_2 hTq_10
  have hFq_14 : cFr [58, 59, 60, 61, 62] [(56, 1), (56, 2), (56, 3), (56, 6), (56, 8), (56, 9), (57, 2), (57, 3), (57, 4)] q q_14 := by rw [eq_14]; exact hFq_10.f (by decide)
  refine dOk_L (fun q_17 eq_17 => ?_)
  have w_18 : Int32.toInt (q_6.1 1 3) = Int32.toInt (q.1 1 3) := by rw [i_9.1 1 3 (by decide) (by decide)]
  have w_19 : Int32.toInt (q_10.1 1 3) = Int32.toInt (q_6.1 1 3) := by rw [eq_10, cui_o (by decide)]
  have w_20 : Int32.toInt (q_14.1 1 3) = Int32.toInt (q_10.1 1 3) := by rw [eq_14, cui_o (by decide)]
  have hTq_17 : TC q_17 := by rw [eq_17]; exact sa_56_3 hTq_14
  have hFq_17 : cFr [58, 59, 60, 61, 62] [(56, 1), (56, 2), (56, 3), (56, 6), (56, 8), (56, 9), (57, 2), (57, 3), (57, 4)] q q_17 := by rw [eq_17]; exact hFq_14.f (by decide)
  refine dOk_L (fun q_21 eq_21 => ?_)
  have f_22 : 0 ≤ Int32.toInt (q_17.1 1 6) ∧ Int32.toInt (q_17.1 1 6) ≤ 6 := rg_1_6 hTq_17
  have f_23 : 0 ≤ Int32.toInt (q_14.1 1 6) ∧ Int32.toInt (q_14.1 1 6) ≤ 6 := rg_1_6 hTq_14
  have f_24 : 0 ≤ Int32.toInt (q_10.1 1 6) ∧ Int32.toInt (q_10.1 1 6) ≤ 6 := rg_1_6 hTq_10
  have f_25 : 0 ≤ Int32.toInt (q_6.1 1 6) ∧ Int32.toInt (q_6.1 1 6) ≤ 6 := rg_1_6 i_8
  have f_26 : 0 ≤ Int32.toInt (q.1 1 6) ∧ Int32.toInt (q.1 1 6) ≤ 6 := rg_1_6 hT
  have w_27 : Int32.toInt (q_6.1 1 6) = Int32.toInt (q.1 1 6) := by rw [i_9.1 1 6 (by decide) (by decide)]
  have w_28 : Int32.toInt (q_10.1 1 6) = Int32.toInt (q_6.1 1 6) := by rw [eq_10, cui_o (by decide)]
  have w_29 : Int32.toInt (q_14.1 1 6) = Int32.toInt (q_10.1 1 6) := by rw [eq_14, cui_o (by decide)]
  have w_30 : Int32.toInt (q_17.1 1 6) = Int32.toInt (q_14.1 1 6) := by rw [eq_17, cui_o (by decide)]
  have hTq_21 : TC q_21 := by rw [eq_21]; exact st_56_6 hTq_17 (show (0 : Int) ≤ Int32.toInt (q_17.1 1 6) by omega) (show Int32.toInt (q_17.1 1 6) ≤ (6 : Int) by omega)
  have hFq_21 : cFr [58, 59, 60, 61, 62] [(56, 1), (56, 2), (56, 3), (56, 6), (56, 8), (56, 9), (57, 2), (57, 3), (57, 4)] q q_21 := by rw [eq_21]; exact hFq_17.f (by decide)
  unfold zX6_copyFrom_s56_s1_48
  refine dFix_ok (fun (a : dK × Int32) => (TC a.1) ∧ (cFr [60, 61] [] q_21 a.1) ∧ (0 ≤ Int32.toInt a.2) ∧ (Int32.toInt a.2 ≤ 6)) (fun (a : dK × Int32) => (6 - Int32.toInt a.2).toNat) ?_ _ ?_ _ (dF_gt ?_)
  · intro a ha k_32 hk_31
    obtain ⟨q_33, x2_34⟩ := a
    replace ha : (TC q_33) ∧ (cFr [60, 61] [] q_21 q_33) ∧ (0 ≤ Int32.toInt x2_34) ∧ (Int32.toInt x2_34 ≤ 6) := ha
    obtain ⟨a_35, a_36, a_37, a_38⟩ := ha
    show dOk (zX6_copyFrom_s56_s1_48b  (fun q x2 => k_32 (q, x2)) q_33 x2_34) _
    unfold zX6_copyFrom_s56_s1_48b
    have hFq_33 : cFr [58, 59, 60, 61, 62] [(56, 1), (56, 2), (56, 3), (56, 6), (56, 8), (56, 9), (57, 2), (57, 3), (57, 4)] q q_33 := hFq_21.t a_36 (by decide) (by decide)
    refine dOk_le (A := 6) (B := Int32.toInt x2_34) (by decide) rfl (fun c_39 => ?_) (fun c_40 => ?_)
    · refine dOk_L (fun q_41 eq_41 => ?_)
      have f_42 : 0 ≤ Int32.toInt (q_33.1 1 8) ∧ Int32.toInt (q_33.1 1 8) ≤ 6 := rg_1_8 a_35
      have f_43 : 0 ≤ Int32.toInt (q_21.1 1 8) ∧ Int32.toInt (q_21.1 1 8) ≤ 6 := rg_1_8 hTq_21
      have f_44 : 0 ≤ Int32.toInt (q_17.1 1 8) ∧ Int32.toInt (q_17.1 1 8) ≤ 6 := rg_1_8 hTq_17
      have f_45 : 0 ≤ Int32.toInt (q_14.1 1 8) ∧ Int32.toInt (q_14.1 1 8) ≤ 6 := rg_1_8 hTq_14
      have f_46 : 0 ≤ Int32.toInt (q_10.1 1 8) ∧ Int32.toInt (q_10.1 1 8) ≤ 6 := rg_1_8 hTq_10
      have f_47 : 0 ≤ Int32.toInt (q_6.1 1 8) ∧ Int32.toInt (q_6.1 1 8) ≤ 6 := rg_1_8 i_8
      have f_48 : 0 ≤ Int32.toInt (q.1 1 8) ∧ Int32.toInt (q.1 1 8) ≤ 6 := rg_1_8 hT
      have w_49 : Int32.toInt (q_6.1 1 8) = Int32.toInt (q.1 1 8) := by rw [i_9.1 1 8 (by decide) (by decide)]
      have w_50 : Int32.toInt (q_10.1 1 8) = Int32.toInt (q_6.1 1 8) := by rw [eq_10, cui_o (by decide)]
      have w_51 : Int32.toInt (q_14.1 1 8) = Int32.toInt (q_10.1 1 8) := by rw [eq_14, cui_o (by decide)]
      have w_52 : Int32.toInt (q_17.1 1 8) = Int32.toInt (q_14.1 1 8) := by rw [eq_17, cui_o (by decide)]
      have w_53 : Int32.toInt (q_21.1 1 8) = Int32.toInt (q_17.1 1 8) := by rw [eq_21, cui_o (by decide)]
      have w_54 : Int32.toInt (q_33.1 1 8) = Int32.toInt (q_21.1 1 8) := by rw [a_36.1 1 8 (by decide) (by decide)]
      have hTq_41 : TC q_41 := by rw [eq_41]; exact st_56_8 a_35 (show (0 : Int) ≤ Int32.toInt (q_33.1 1 8) by omega) (show Int32.toInt (q_33.1 1 8) ≤ (6 : Int) by omega)
      have hFq_41 : cFr [58, 59, 60, 61, 62] [(56, 1), (56, 2), (56, 3), (56, 6), (56, 8), (56, 9), (57, 2), (57, 3), (57, 4)] q q_41 := by rw [eq_41]; exact hFq_33.f (by decide)
      unfold zX6_copyFrom_s56_s1_94
      refine dFix_ok (fun (a : dK × Int32) => (TC a.1) ∧ (cFr [62] [] q_41 a.1) ∧ (0 ≤ Int32.toInt a.2) ∧ (Int32.toInt a.2 ≤ 6)) (fun (a : dK × Int32) => (6 - Int32.toInt a.2).toNat) ?_ _ ?_ _ (dF_gt ?_)
      · intro a ha k_56 hk_55
        obtain ⟨q_57, x2_58⟩ := a
        replace ha : (TC q_57) ∧ (cFr [62] [] q_41 q_57) ∧ (0 ≤ Int32.toInt x2_58) ∧ (Int32.toInt x2_58 ≤ 6) := ha
        obtain ⟨a_59, a_60, a_61, a_62⟩ := ha
        show dOk (zX6_copyFrom_s56_s1_94b  (fun q x2 => k_56 (q, x2)) q_57 x2_58) _
        unfold zX6_copyFrom_s56_s1_94b
        have hFq_57 : cFr [58, 59, 60, 61, 62] [(56, 1), (56, 2), (56, 3), (56, 6), (56, 8), (56, 9), (57, 2), (57, 3), (57, 4)] q q_57 := hFq_41.t a_60 (by decide) (by decide)
        refine dOk_le (A := 6) (B := Int32.toInt x2_58) (by decide) rfl (fun c_63 => ?_) (fun c_64 => ?_)
        · refine dOk_L (fun q_65 eq_65 => ?_)
          have w_66 : Int32.toInt (q_6.1 1 9) = Int32.toInt (q.1 1 9) := by rw [i_9.1 1 9 (by decide) (by decide)]
          have w_67 : Int32.toInt (q_10.1 1 9) = Int32.toInt (q_6.1 1 9) := by rw [eq_10, cui_o (by decide)]
          have w_68 : Int32.toInt (q_14.1 1 9) = Int32.toInt (q_10.1 1 9) := by rw [eq_14, cui_o (by decide)]
          have w_69 : Int32.toInt (q_17.1 1 9) = Int32.toInt (q_14.1 1 9) := by rw [eq_17, cui_o (by decide)]
          have w_70 : Int32.toInt (q_21.1 1 9) = Int32.toInt (q_17.1 1 9) := by rw [eq_21, cui_o (by decide)]
          have w_71 : Int32.toInt (q_33.1 1 9) = Int32.toInt (q_21.1 1 9) := by rw [a_36.1 1 9 (by decide) (by decide)]
          have w_72 : Int32.toInt (q_41.1 1 9) = Int32.toInt (q_33.1 1 9) := by rw [eq_41, cui_o (by decide)]
          have w_73 : Int32.toInt (q_57.1 1 9) = Int32.toInt (q_41.1 1 9) := by rw [a_60.1 1 9 (by decide) (by decide)]
          have hTq_65 : TC q_65 := by rw [eq_65]; exact sa_56_9 a_59
          have hFq_65 : cFr [58, 59, 60, 61, 62] [(56, 1), (56, 2), (56, 3), (56, 6), (56, 8), (56, 9), (57, 2), (57, 3), (57, 4)] q q_65 := by rw [eq_65]; exact hFq_57.f (by decide)
          have f_74 : 0 ≤ Int32.toInt (q_65.1 56 6) ∧ Int32.toInt (q_65.1 56 6) ≤ 6 := rg_56_6 hTq_65
          have f_75 : 0 ≤ Int32.toInt (q_57.1 56 6) ∧ Int32.toInt (q_57.1 56 6) ≤ 6 := rg_56_6 a_59
          have f_76 : 0 ≤ Int32.toInt (q_41.1 56 6) ∧ Int32.toInt (q_41.1 56 6) ≤ 6 := rg_56_6 hTq_41
          have f_77 : 0 ≤ Int32.toInt (q_33.1 56 6) ∧ Int32.toInt (q_33.1 56 6) ≤ 6 := rg_56_6 a_35
          have f_78 : 0 ≤ Int32.toInt (q_21.1 56 6) ∧ Int32.toInt (q_21.1 56 6) ≤ 6 := rg_56_6 hTq_21
          have w_79 : Int32.toInt (q_21.1 56 6) = Int32.toInt (q_17.1 1 6) := by rw [eq_21, cui_e]
          have w_80 : Int32.toInt (q_33.1 56 6) = Int32.toInt (q_21.1 56 6) := by rw [a_36.1 56 6 (by decide) (by decide)]
          have w_81 : Int32.toInt (q_41.1 56 6) = Int32.toInt (q_33.1 56 6) := by rw [eq_41, cui_n (by decide)]
          have w_82 : Int32.toInt (q_57.1 56 6) = Int32.toInt (q_41.1 56 6) := by rw [a_60.1 56 6 (by decide) (by decide)]
          have w_83 : Int32.toInt (q_65.1 56 6) = Int32.toInt (q_57.1 56 6) := by rw [eq_65, cui_n (by decide)]
          have f_84 : 0 ≤ Int32.toInt (q_65.1 56 1) ∧ Int32.toInt (q_65.1 56 1) ≤ 10 := rg_56_1 hTq_65
          have f_85 : 0 ≤ Int32.toInt (q_57.1 56 1) ∧ Int32.toInt (q_57.1 56 1) ≤ 10 := rg_56_1 a_59
          have f_86 : 0 ≤ Int32.toInt (q_41.1 56 1) ∧ Int32.toInt (q_41.1 56 1) ≤ 10 := rg_56_1 hTq_41
          have f_87 : 0 ≤ Int32.toInt (q_33.1 56 1) ∧ Int32.toInt (q_33.1 56 1) ≤ 10 := rg_56_1 a_35
          have f_88 : 0 ≤ Int32.toInt (q_21.1 56 1) ∧ Int32.toInt (q_21.1 56 1) ≤ 10 := rg_56_1 hTq_21
          have f_89 : 0 ≤ Int32.toInt (q_17.1 56 1) ∧ Int32.toInt (q_17.1 56 1) ≤ 10 := rg_56_1 hTq_17
          have f_90 : 0 ≤ Int32.toInt (q_14.1 56 1) ∧ Int32.toInt (q_14.1 56 1) ≤ 10 := rg_56_1 hTq_14
          have f_91 : 0 ≤ Int32.toInt (q_10.1 56 1) ∧ Int32.toInt (q_10.1 56 1) ≤ 10 := rg_56_1 hTq_10
          have w_92 : Int32.toInt (q_10.1 56 1) = Int32.toInt (q_6.1 1 1) := by rw [eq_10, cui_e]
          have w_93 : Int32.toInt (q_14.1 56 1) = Int32.toInt (q_10.1 56 1) := by rw [eq_14, cui_n (by decide)]
          have w_94 : Int32.toInt (q_17.1 56 1) = Int32.toInt (q_14.1 56 1) := by rw [eq_17, cui_n (by decide)]
          have w_95 : Int32.toInt (q_21.1 56 1) = Int32.toInt (q_17.1 56 1) := by rw [eq_21, cui_n (by decide)]
          have w_96 : Int32.toInt (q_33.1 56 1) = Int32.toInt (q_21.1 56 1) := by rw [a_36.1 56 1 (by decide) (by decide)]
          have w_97 : Int32.toInt (q_41.1 56 1) = Int32.toInt (q_33.1 56 1) := by rw [eq_41, cui_n (by decide)]
          have w_98 : Int32.toInt (q_57.1 56 1) = Int32.toInt (q_41.1 56 1) := by rw [a_60.1 56 1 (by decide) (by decide)]
          have w_99 : Int32.toInt (q_65.1 56 1) = Int32.toInt (q_57.1 56 1) := by rw [eq_65, cui_n (by decide)]
          exact dOk_some (show (TC q_65) ∧ (cFr [58, 59, 60, 61, 62] [(56, 1), (56, 2), (56, 3), (56, 6), (56, 8), (56, 9), (57, 2), (57, 3), (57, 4)] q q_65) ∧ (Int32.toInt (q_65.1 56 6) = Int32.toInt (q.1 1 6)) ∧ (Int32.toInt (q_65.1 56 1) = Int32.toInt (q.1 1 1)) from ⟨hTq_65, hFq_65, by omega, by omega⟩)
        · refine dOk_G (dg_ok (show 0 ≤ Int32.toInt x2_58 by omega) (show Int32.toInt x2_58 < ((6 : Nat) : Int) by omega)) ?_
          have n_100 : ((Int32.toNatClampNeg x2_58 : Nat) : Int) = Int32.toInt x2_58 := cl_eq (by omega)
          refine dOk_L (fun v_101 ev_101 => ?_)
          have f_102 : 0 ≤ Int32.toInt v_101 ∧ Int32.toInt v_101 ≤ 2147483647 := by rw [ev_101]; exact rg_7 a_59 _
          have f_103 : Int32.toInt v_101 ≤ (q_57.2.2.length : Int) := by rw [ev_101]; exact (a_59.2.1.2 _).1
          refine dOk_G (dg_ok (show 0 ≤ Int32.toInt x2_58 by omega) (show Int32.toInt x2_58 < ((6 : Nat) : Int) by omega)) ?_
          refine dOk_eq (A := Int32.toInt v_101) (B := 0) rfl (by decide) (fun c_104z c_104 => ?_) (fun c_105z c_105 => ?_)
          · refine dOk_L (fun q_107 eq_107 => ?_)
            have n_108 : q_6.2.2.length = q.2.2.length := (congrArg List.length i_9.2)
            have n_109 : q_10.2.2.length = q_6.2.2.length := (by rw [eq_10]; rfl)
            have n_110 : q_14.2.2.length = q_10.2.2.length := (by rw [eq_14]; rfl)
            have n_111 : q_17.2.2.length = q_14.2.2.length := (by rw [eq_17]; rfl)
            have n_112 : q_21.2.2.length = q_17.2.2.length := (by rw [eq_21]; rfl)
            have n_113 : q_33.2.2.length = q_21.2.2.length := (congrArg List.length a_36.2)
            have n_114 : q_41.2.2.length = q_33.2.2.length := (by rw [eq_41]; rfl)
            have n_115 : q_57.2.2.length = q_41.2.2.length := (congrArg List.length a_60.2)
            have hTq_107 : TC q_107 := by rw [eq_107]; exact tc_law a_59 (by omega) (show 0 ≤ (0 : Int) by omega) (show (0 : Int) ≤ (q_57.2.2.length : Int) by omega)
            have hFq_107 : cFr [58, 59, 60, 61, 62] [(56, 1), (56, 2), (56, 3), (56, 6), (56, 8), (56, 9), (57, 2), (57, 3), (57, 4)] q q_107 := by rw [eq_107]; exact hFq_57.i (by decide)
            try have t_116 : Int32.toInt (x2_58 + 1) = Int32.toInt x2_58 + 1 := ti_add rfl (by decide) (by omega) (by omega)
            exact hk_55 (q_107, (x2_58 + 1)) (show (TC q_107) ∧ (cFr [62] [] q_41 q_107) ∧ (0 ≤ Int32.toInt (x2_58 + 1)) ∧ (Int32.toInt (x2_58 + 1) ≤ 6) from ⟨hTq_107, (by rw [eq_107]; exact (((cFr.rf : cFr [62] [] q_41 q_41).t a_60 (by decide) (by decide)) : cFr [62] [] q_41 q_57).i (by decide)), by omega, by omega⟩) (show (6 - Int32.toInt (x2_58 + 1)).toNat < (6 - Int32.toInt x2_58).toNat by omega)
          · have n_117 : q_6.2.2.length = q.2.2.length := (congrArg List.length i_9.2)
            have n_118 : q_10.2.2.length = q_6.2.2.length := (by rw [eq_10]; rfl)
            have n_119 : q_14.2.2.length = q_10.2.2.length := (by rw [eq_14]; rfl)
            have n_120 : q_17.2.2.length = q_14.2.2.length := (by rw [eq_17]; rfl)
            have n_121 : q_21.2.2.length = q_17.2.2.length := (by rw [eq_21]; rfl)
            have n_122 : q_33.2.2.length = q_21.2.2.length := (congrArg List.length a_36.2)
            have n_123 : q_41.2.2.length = q_33.2.2.length := (by rw [eq_41]; rfl)
            have n_124 : q_57.2.2.length = q_41.2.2.length := (congrArg List.length a_60.2)
            have g_125 : dlg q_57 v_101 = true := tc_dlg a_59 (show ¬ Int32.toInt v_101 = 0 by omega) (show 0 ≤ Int32.toInt v_101 by omega) (show Int32.toInt v_101 ≤ (q_57.2.2.length : Int) by omega)
            refine dOk_G g_125 ?_
            refine dOk_L (fun q_126 eq_126 => ?_)
            have hTq_126 : TC q_126 := by rw [eq_126]; exact tc_law a_59 (by omega) (show 0 ≤ Int32.toInt v_101 by omega) (show Int32.toInt v_101 ≤ (q_57.2.2.length : Int) by omega)
            have hFq_126 : cFr [58, 59, 60, 61, 62] [(56, 1), (56, 2), (56, 3), (56, 6), (56, 8), (56, 9), (57, 2), (57, 3), (57, 4)] q q_126 := by rw [eq_126]; exact hFq_57.i (by decide)
            try have t_127 : Int32.toInt (x2_58 + 1) = Int32.toInt x2_58 + 1 := ti_add rfl (by decide) (by omega) (by omega)
            exact hk_55 (q_126, (x2_58 + 1)) (show (TC q_126) ∧ (cFr [62] [] q_41 q_126) ∧ (0 ≤ Int32.toInt (x2_58 + 1)) ∧ (Int32.toInt (x2_58 + 1) ≤ 6) from ⟨hTq_126, (by rw [eq_126]; exact (((cFr.rf : cFr [62] [] q_41 q_41).t a_60 (by decide) (by decide)) : cFr [62] [] q_41 q_57).i (by decide)), by omega, by omega⟩) (show (6 - Int32.toInt (x2_58 + 1)).toNat < (6 - Int32.toInt x2_58).toNat by omega)
      · exact (show (TC q_41) ∧ (cFr [62] [] q_41 q_41) ∧ (0 ≤ (0 : Int)) ∧ ((0 : Int) ≤ 6) from ⟨hTq_41, cFr.rf, by omega, by omega⟩)
      · show (6 - (0 : Int)).toNat < 1000000000000
        omega
    · refine dOk_G (dg_ok (show 0 ≤ Int32.toInt x2_34 by omega) (show Int32.toInt x2_34 < ((6 : Nat) : Int) by omega)) ?_
      have n_128 : ((Int32.toNatClampNeg x2_34 : Nat) : Int) = Int32.toInt x2_34 := cl_eq (by omega)
      refine dOk_L (fun v_129 ev_129 => ?_)
      refine dOk_G (dg_ok (show 0 ≤ Int32.toInt x2_34 by omega) (show Int32.toInt x2_34 < ((6 : Nat) : Int) by omega)) ?_
      refine dOk_L (fun q_130 eq_130 => ?_)
      have hTq_130 : TC q_130 := by rw [eq_130]; exact sa_60 a_35
      have hFq_130 : cFr [58, 59, 60, 61, 62] [(56, 1), (56, 2), (56, 3), (56, 6), (56, 8), (56, 9), (57, 2), (57, 3), (57, 4)] q q_130 := by rw [eq_130]; exact hFq_33.i (by decide)
      refine dOk_G (dg_ok (show 0 ≤ Int32.toInt x2_34 by omega) (show Int32.toInt x2_34 < ((6 : Nat) : Int) by omega)) ?_
      refine dOk_L (fun v_131 ev_131 => ?_)
      refine dOk_G (dg_ok (show 0 ≤ Int32.toInt x2_34 by omega) (show Int32.toInt x2_34 < ((6 : Nat) : Int) by omega)) ?_
      refine dOk_L (fun q_132 eq_132 => ?_)
      have hTq_132 : TC q_132 := by rw [eq_132]; exact sa_61 hTq_130
      have hFq_132 : cFr [58, 59, 60, 61, 62] [(56, 1), (56, 2), (56, 3), (56, 6), (56, 8), (56, 9), (57, 2), (57, 3), (57, 4)] q q_132 := by rw [eq_132]; exact hFq_130.i (by decide)
      try have t_133 : Int32.toInt (x2_34 + 1) = Int32.toInt x2_34 + 1 := ti_add rfl (by decide) (by omega) (by omega)
      exact hk_31 (q_132, (x2_34 + 1)) (show (TC q_132) ∧ (cFr [60, 61] [] q_21 q_132) ∧ (0 ≤ Int32.toInt (x2_34 + 1)) ∧ (Int32.toInt (x2_34 + 1) ≤ 6) from ⟨hTq_132, (by rw [eq_132]; exact ((by rw [eq_130]; exact (((cFr.rf : cFr [60, 61] [] q_21 q_21).t a_36 (by decide) (by decide)) : cFr [60, 61] [] q_21 q_33).i (by decide)) : cFr [60, 61] [] q_21 q_130).i (by decide)), by omega, by omega⟩) (show (6 - Int32.toInt (x2_34 + 1)).toNat < (6 - Int32.toInt x2_34).toNat by omega)
  · exact (show (TC q_21) ∧ (cFr [60, 61] [] q_21 q_21) ∧ (0 ≤ (0 : Int)) ∧ ((0 : Int) ≤ 6) from ⟨hTq_21, cFr.rf, by omega, by omega⟩)
  · show (6 - (0 : Int)).toNat < 1000000000000
    omega

set_option maxHeartbeats 4000000 in
set_option maxRecDepth 100000 in
theorem ok_X6_copyFrom_s1_s49 (q : dK) (hT : TC q) : dOk (zX6_copyFrom_s1_s49 q) (fun (o : dK) => (TC o) ∧ (cFr [3, 4, 5, 6, 7] [(1, 1), (1, 2), (1, 3), (1, 6), (1, 8), (1, 9), (2, 2), (2, 3), (2, 4)] q o) ∧ (Int32.toInt (o.1 1 6) = Int32.toInt (q.1 49 6)) ∧ (Int32.toInt (o.1 1 1) = Int32.toInt (q.1 49 1))) := by
  unfold zX6_copyFrom_s1_s49
  refine dOk_B (ok_X8_pack_s50 q hT) (fun r_1 q_2 h_3 => ?_)
  replace h_3 : (q_2 = q) ∧ (0 ≤ Int64.toInt r_1) := h_3
  obtain ⟨i_4, i_5⟩ := h_3
  subst q_2
  refine dOk_V (ok_X8_unpack_s2 q (r_1) hT (show 0 ≤ Int64.toInt (r_1) by omega)) (fun q_6 h_7 => ?_)
  replace h_7 : (TC q_6) ∧ (cFr [3, 4] [(2, 2), (2, 3), (2, 4)] q q_6) := h_7
  obtain ⟨i_8, i_9⟩ := h_7
  have hFq_6 : cFr [3, 4, 5, 6, 7] [(1, 1), (1, 2), (1, 3), (1, 6), (1, 8), (1, 9), (2, 2), (2, 3), (2, 4)] q q_6 := (cFr.rf (q := q)).t i_9 (by decide) (by decide)
  refine dOk_L (fun q_10 eq_10 => ?_)
  have f_11 : 0 ≤ Int32.toInt (q_6.1 49 1) ∧ Int32.toInt (q_6.1 49 1) ≤ 10 := rg_49_1 i_8
  have f_12 : 0 ≤ Int32.toInt (q.1 49 1) ∧ Int32.toInt (q.1 49 1) ≤ 10 := rg_49_1 hT
  have w_13 : Int32.toInt (q_6.1 49 1) = Int32.toInt (q.1 49 1) := by rw [i_9.1 49 1 (by decide) (by decide)]
  have hTq_10 : TC q_10 := by rw [eq_10]; exact st_1_1 i_8 (show (0 : Int) ≤ Int32.toInt (q_6.1 49 1) by omega) (show Int32.toInt (q_6.1 49 1) ≤ (10 : Int) by omega)
  have hFq_10 : cFr [3, 4, 5, 6, 7] [(1, 1), (1, 2), (1, 3), (1, 6), (1, 8), (1, 9), (2, 2), (2, 3), (2, 4)] q q_10 := by rw [eq_10]; exact hFq_6.f (by decide)
  refine dOk_L (fun q_14 eq_14 => ?_)
  have w_15 : Int32.toInt (q_6.1 49 2) = Int32.toInt (q.1 49 2) := by rw [i_9.1 49 2 (by decide) (by decide)]
  have w_16 : Int32.toInt (q_10.1 49 2) = Int32.toInt (q_6.1 49 2) := by rw [eq_10, cui_o (by decide)]
  have hTq_14 : TC q_14 := by rw [eq_14]; exact sa_1_2 hTq_10
  have hFq_14 : cFr [3, 4, 5, 6, 7] [(1, 1), (1, 2), (1, 3), (1, 6), (1, 8), (1, 9), (2, 2), (2, 3), (2, 4)] q q_14 := by rw [eq_14]; exact hFq_10.f (by decide)
  refine dOk_L (fun q_17 eq_17 => ?_)
  have w_18 : Int32.toInt (q_6.1 49 3) = Int32.toInt (q.1 49 3) := by rw [i_9.1 49 3 (by decide) (by decide)]
  have w_19 : Int32.toInt (q_10.1 49 3) = Int32.toInt (q_6.1 49 3) := by rw [eq_10, cui_o (by decide)]
  have w_20 : Int32.toInt (q_14.1 49 3) = Int32.toInt (q_10.1 49 3) := by rw [eq_14, cui_o (by decide)]
  have hTq_17 : TC q_17 := by rw [eq_17]; exact sa_1_3 hTq_14
  have hFq_17 : cFr [3, 4, 5, 6, 7] [(1, 1), (1, 2), (1, 3), (1, 6), (1, 8), (1, 9), (2, 2), (2, 3), (2, 4)] q q_17 := by rw [eq_17]; exact hFq_14.f (by decide)
  refine dOk_L (fun q_21 eq_21 => ?_)
  have f_22 : 0 ≤ Int32.toInt (q_17.1 49 6) ∧ Int32.toInt (q_17.1 49 6) ≤ 6 := rg_49_6 hTq_17
  have f_23 : 0 ≤ Int32.toInt (q_14.1 49 6) ∧ Int32.toInt (q_14.1 49 6) ≤ 6 := rg_49_6 hTq_14
  have f_24 : 0 ≤ Int32.toInt (q_10.1 49 6) ∧ Int32.toInt (q_10.1 49 6) ≤ 6 := rg_49_6 hTq_10
  have f_25 : 0 ≤ Int32.toInt (q_6.1 49 6) ∧ Int32.toInt (q_6.1 49 6) ≤ 6 := rg_49_6 i_8
  have f_26 : 0 ≤ Int32.toInt (q.1 49 6) ∧ Int32.toInt (q.1 49 6) ≤ 6 := rg_49_6 hT
  have w_27 : Int32.toInt (q_6.1 49 6) = Int32.toInt (q.1 49 6) := by rw [i_9.1 49 6 (by decide) (by decide)]
  have w_28 : Int32.toInt (q_10.1 49 6) = Int32.toInt (q_6.1 49 6) := by rw [eq_10, cui_o (by decide)]
  have w_29 : Int32.toInt (q_14.1 49 6) = Int32.toInt (q_10.1 49 6) := by rw [eq_14, cui_o (by decide)]
  have w_30 : Int32.toInt (q_17.1 49 6) = Int32.toInt (q_14.1 49 6) := by rw [eq_17, cui_o (by decide)]
  have hTq_21 : TC q_21 := by rw [eq_21]; exact st_1_6 hTq_17 (show (0 : Int) ≤ Int32.toInt (q_17.1 49 6) by omega) (show Int32.toInt (q_17.1 49 6) ≤ (6 : Int) by omega)
  have hFq_21 : cFr [3, 4, 5, 6, 7] [(1, 1), (1, 2), (1, 3), (1, 6), (1, 8), (1, 9), (2, 2), (2, 3), (2, 4)] q q_21 := by rw [eq_21]; exact hFq_17.f (by decide)
  unfold zX6_copyFrom_s1_s49_48
  refine dFix_ok (fun (a : dK × Int32) => (TC a.1) ∧ (cFr [5, 6] [] q_21 a.1) ∧ (0 ≤ Int32.toInt a.2) ∧ (Int32.toInt a.2 ≤ 6)) (fun (a : dK × Int32) => (6 - Int32.toInt a.2).toNat) ?_ _ ?_ _ (dF_gt ?_)
  · intro a ha k_32 hk_31
    obtain ⟨q_33, x2_34⟩ := a
    replace ha : (TC q_33) ∧ (cFr [5, 6] [] q_21 q_33) ∧ (0 ≤ Int32.toInt x2_34) ∧ (Int32.toInt x2_34 ≤ 6) := ha
    obtain ⟨a_35, a_36, a_37, a_38⟩ := ha
    show dOk (zX6_copyFrom_s1_s49_48b  (fun q x2 => k_32 (q, x2)) q_33 x2_34) _
    unfold zX6_copyFrom_s1_s49_48b
    have hFq_33 : cFr [3, 4, 5, 6, 7] [(1, 1), (1, 2), (1, 3), (1, 6), (1, 8), (1, 9), (2, 2), (2, 3), (2, 4)] q q_33 := hFq_21.t a_36 (by decide) (by decide)
    refine dOk_le (A := 6) (B := Int32.toInt x2_34) (by decide) rfl (fun c_39 => ?_) (fun c_40 => ?_)
    · refine dOk_L (fun q_41 eq_41 => ?_)
      have f_42 : 0 ≤ Int32.toInt (q_33.1 49 8) ∧ Int32.toInt (q_33.1 49 8) ≤ 6 := rg_49_8 a_35
      have f_43 : 0 ≤ Int32.toInt (q_21.1 49 8) ∧ Int32.toInt (q_21.1 49 8) ≤ 6 := rg_49_8 hTq_21
      have f_44 : 0 ≤ Int32.toInt (q_17.1 49 8) ∧ Int32.toInt (q_17.1 49 8) ≤ 6 := rg_49_8 hTq_17
      have f_45 : 0 ≤ Int32.toInt (q_14.1 49 8) ∧ Int32.toInt (q_14.1 49 8) ≤ 6 := rg_49_8 hTq_14
      have f_46 : 0 ≤ Int32.toInt (q_10.1 49 8) ∧ Int32.toInt (q_10.1 49 8) ≤ 6 := rg_49_8 hTq_10
      have f_47 : 0 ≤ Int32.toInt (q_6.1 49 8) ∧ Int32.toInt (q_6.1 49 8) ≤ 6 := rg_49_8 i_8
      have f_48 : 0 ≤ Int32.toInt (q.1 49 8) ∧ Int32.toInt (q.1 49 8) ≤ 6 := rg_49_8 hT
      have w_49 : Int32.toInt (q_6.1 49 8) = Int32.toInt (q.1 49 8) := by rw [i_9.1 49 8 (by decide) (by decide)]
      have w_50 : Int32.toInt (q_10.1 49 8) = Int32.toInt (q_6.1 49 8) := by rw [eq_10, cui_o (by decide)]
      have w_51 : Int32.toInt (q_14.1 49 8) = Int32.toInt (q_10.1 49 8) := by rw [eq_14, cui_o (by decide)]
      have w_52 : Int32.toInt (q_17.1 49 8) = Int32.toInt (q_14.1 49 8) := by rw [eq_17, cui_o (by decide)]
      have w_53 : Int32.toInt (q_21.1 49 8) = Int32.toInt (q_17.1 49 8) := by rw [eq_21, cui_o (by decide)]
      have w_54 : Int32.toInt (q_33.1 49 8) = Int32.toInt (q_21.1 49 8) := by rw [a_36.1 49 8 (by decide) (by decide)]
      have hTq_41 : TC q_41 := by rw [eq_41]; exact st_1_8 a_35 (show (0 : Int) ≤ Int32.toInt (q_33.1 49 8) by omega) (show Int32.toInt (q_33.1 49 8) ≤ (6 : Int) by omega)
      have hFq_41 : cFr [3, 4, 5, 6, 7] [(1, 1), (1, 2), (1, 3), (1, 6), (1, 8), (1, 9), (2, 2), (2, 3), (2, 4)] q q_41 := by rw [eq_41]; exact hFq_33.f (by decide)
      unfold zX6_copyFrom_s1_s49_94
      refine dFix_ok (fun (a : dK × Int32) => (TC a.1) ∧ (cFr [7] [] q_41 a.1) ∧ (0 ≤ Int32.toInt a.2) ∧ (Int32.toInt a.2 ≤ 6)) (fun (a : dK × Int32) => (6 - Int32.toInt a.2).toNat) ?_ _ ?_ _ (dF_gt ?_)
      · intro a ha k_56 hk_55
        obtain ⟨q_57, x2_58⟩ := a
        replace ha : (TC q_57) ∧ (cFr [7] [] q_41 q_57) ∧ (0 ≤ Int32.toInt x2_58) ∧ (Int32.toInt x2_58 ≤ 6) := ha
        obtain ⟨a_59, a_60, a_61, a_62⟩ := ha
        show dOk (zX6_copyFrom_s1_s49_94b  (fun q x2 => k_56 (q, x2)) q_57 x2_58) _
        unfold zX6_copyFrom_s1_s49_94b
        have hFq_57 : cFr [3, 4, 5, 6, 7] [(1, 1), (1, 2), (1, 3), (1, 6), (1, 8), (1, 9), (2, 2), (2, 3), (2, 4)] q q_57 := hFq_41.t a_60 (by decide) (by decide)
        refine dOk_le (A := 6) (B := Int32.toInt x2_58) (by decide) rfl (fun c_63 => ?_) (fun c_64 => ?_)
        · refine dOk_L (fun q_65 eq_65 => ?_)
          have w_66 : Int32.toInt (q_6.1 49 9) = Int32.toInt (q.1 49 9) := by rw [i_9.1 49 9 (by decide) (by decide)]
          have w_67 : Int32.toInt (q_10.1 49 9) = Int32.toInt (q_6.1 49 9) := by rw [eq_10, cui_o (by decide)]
          have w_68 : Int32.toInt (q_14.1 49 9) = Int32.toInt (q_10.1 49 9) := by rw [eq_14, cui_o (by decide)]
          have w_69 : Int32.toInt (q_17.1 49 9) = Int32.toInt (q_14.1 49 9) := by rw [eq_17, cui_o (by decide)]
          have w_70 : Int32.toInt (q_21.1 49 9) = Int32.toInt (q_17.1 49 9) := by rw [eq_21, cui_o (by decide)]
          have w_71 : Int32.toInt (q_33.1 49 9) = Int32.toInt (q_21.1 49 9) := by rw [a_36.1 49 9 (by decide) (by decide)]
          have w_72 : Int32.toInt (q_41.1 49 9) = Int32.toInt (q_33.1 49 9) := by rw [eq_41, cui_o (by decide)]
          have w_73 : Int32.toInt (q_57.1 49 9) = Int32.toInt (q_41.1 49 9) := by rw [a_60.1 49 9 (by decide) (by decide)]
          have hTq_65 : TC q_65 := by rw [eq_65]; exact sa_1_9 a_59
          have hFq_65 : cFr [3, 4, 5, 6, 7] [(1, 1), (1, 2), (1, 3), (1, 6), (1, 8), (1, 9), (2, 2), (2, 3), (2, 4)] q q_65 := by rw [eq_65]; exact hFq_57.f (by decide)
          have f_74 : 0 ≤ Int32.toInt (q_65.1 1 6) ∧ Int32.toInt (q_65.1 1 6) ≤ 6 := rg_1_6 hTq_65
          have f_75 : 0 ≤ Int32.toInt (q_57.1 1 6) ∧ Int32.toInt (q_57.1 1 6) ≤ 6 := rg_1_6 a_59
          have f_76 : 0 ≤ Int32.toInt (q_41.1 1 6) ∧ Int32.toInt (q_41.1 1 6) ≤ 6 := rg_1_6 hTq_41
          have f_77 : 0 ≤ Int32.toInt (q_33.1 1 6) ∧ Int32.toInt (q_33.1 1 6) ≤ 6 := rg_1_6 a_35
          have f_78 : 0 ≤ Int32.toInt (q_21.1 1 6) ∧ Int32.toInt (q_21.1 1 6) ≤ 6 := rg_1_6 hTq_21
          have w_79 : Int32.toInt (q_21.1 1 6) = Int32.toInt (q_17.1 49 6) := by rw [eq_21, cui_e]
          have w_80 : Int32.toInt (q_33.1 1 6) = Int32.toInt (q_21.1 1 6) := by rw [a_36.1 1 6 (by decide) (by decide)]
          have w_81 : Int32.toInt (q_41.1 1 6) = Int32.toInt (q_33.1 1 6) := by rw [eq_41, cui_n (by decide)]
          have w_82 : Int32.toInt (q_57.1 1 6) = Int32.toInt (q_41.1 1 6) := by rw [a_60.1 1 6 (by decide) (by decide)]
          have w_83 : Int32.toInt (q_65.1 1 6) = Int32.toInt (q_57.1 1 6) := by rw [eq_65, cui_n (by decide)]
          have f_84 : 0 ≤ Int32.toInt (q_65.1 1 1) ∧ Int32.toInt (q_65.1 1 1) ≤ 10 := rg_1_1 hTq_65
          have f_85 : 0 ≤ Int32.toInt (q_57.1 1 1) ∧ Int32.toInt (q_57.1 1 1) ≤ 10 := rg_1_1 a_59
          have f_86 : 0 ≤ Int32.toInt (q_41.1 1 1) ∧ Int32.toInt (q_41.1 1 1) ≤ 10 := rg_1_1 hTq_41
          have f_87 : 0 ≤ Int32.toInt (q_33.1 1 1) ∧ Int32.toInt (q_33.1 1 1) ≤ 10 := rg_1_1 a_35
          have f_88 : 0 ≤ Int32.toInt (q_21.1 1 1) ∧ Int32.toInt (q_21.1 1 1) ≤ 10 := rg_1_1 hTq_21
          have f_89 : 0 ≤ Int32.toInt (q_17.1 1 1) ∧ Int32.toInt (q_17.1 1 1) ≤ 10 := rg_1_1 hTq_17
          have f_90 : 0 ≤ Int32.toInt (q_14.1 1 1) ∧ Int32.toInt (q_14.1 1 1) ≤ 10 := rg_1_1 hTq_14
          have f_91 : 0 ≤ Int32.toInt (q_10.1 1 1) ∧ Int32.toInt (q_10.1 1 1) ≤ 10 := rg_1_1 hTq_10
          have w_92 : Int32.toInt (q_10.1 1 1) = Int32.toInt (q_6.1 49 1) := by rw [eq_10, cui_e]
          have w_93 : Int32.toInt (q_14.1 1 1) = Int32.toInt (q_10.1 1 1) := by rw [eq_14, cui_n (by decide)]
          have w_94 : Int32.toInt (q_17.1 1 1) = Int32.toInt (q_14.1 1 1) := by rw [eq_17, cui_n (by decide)]
          have w_95 : Int32.toInt (q_21.1 1 1) = Int32.toInt (q_17.1 1 1) := by rw [eq_21, cui_n (by decide)]
          have w_96 : Int32.toInt (q_33.1 1 1) = Int32.toInt (q_21.1 1 1) := by rw [a_36.1 1 1 (by decide) (by decide)]
          have w_97 : Int32.toInt (q_41.1 1 1) = Int32.toInt (q_33.1 1 1) := by rw [eq_41, cui_n (by decide)]
          have w_98 : Int32.toInt (q_57.1 1 1) = Int32.toInt (q_41.1 1 1) := by rw [a_60.1 1 1 (by decide) (by decide)]
          have w_99 : Int32.toInt (q_65.1 1 1) = Int32.toInt (q_57.1 1 1) := by rw [eq_65, cui_n (by decide)]
          exact dOk_some (show (TC q_65) ∧ (cFr [3, 4, 5, 6, 7] [(1, 1), (1, 2), (1, 3), (1, 6), (1, 8), (1, 9), (2, 2), (2, 3), (2, 4)] q q_65) ∧ (Int32.toInt (q_65.1 1 6) = Int32.toInt (q.1 49 6)) ∧ (Int32.toInt (q_65.1 1 1) = Int32.toInt (q.1 49 1)) from ⟨hTq_65, hFq_65, by omega, by omega⟩)
        · refine dOk_G (dg_ok (show 0 ≤ Int32.toInt x2_58 by omega) (show Int32.toInt x2_58 < ((6 : Nat) : Int) by omega)) ?_
          have n_100 : ((Int32.toNatClampNeg x2_58 : Nat) : Int) = Int32.toInt x2_58 := cl_eq (by omega)
          refine dOk_L (fun v_101 ev_101 => ?_)
          have f_102 : 0 ≤ Int32.toInt v_101 ∧ Int32.toInt v_101 ≤ 2147483647 := by rw [ev_101]; exact rg_55 a_59 _
          have f_103 : Int32.toInt v_101 ≤ (q_57.2.2.length : Int) := by rw [ev_101]; exact (a_59.2.1.2 _).2.1
          refine dOk_G (dg_ok (show 0 ≤ Int32.toInt x2_58 by omega) (show Int32.toInt x2_58 < ((6 : Nat) : Int) by omega)) ?_
          refine dOk_eq (A := Int32.toInt v_101) (B := 0) rfl (by decide) (fun c_104z c_104 => ?_) (fun c_105z c_105 => ?_)
          · refine dOk_L (fun q_107 eq_107 => ?_)
            have n_108 : q_6.2.2.length = q.2.2.length := (congrArg List.length i_9.2)
            have n_109 : q_10.2.2.length = q_6.2.2.length := (by rw [eq_10]; rfl)
            have n_110 : q_14.2.2.length = q_10.2.2.length := (by rw [eq_14]; rfl)
            have n_111 : q_17.2.2.length = q_14.2.2.length := (by rw [eq_17]; rfl)
            have n_112 : q_21.2.2.length = q_17.2.2.length := (by rw [eq_21]; rfl)
            have n_113 : q_33.2.2.length = q_21.2.2.length := (congrArg List.length a_36.2)
            have n_114 : q_41.2.2.length = q_33.2.2.length := (by rw [eq_41]; rfl)
            have n_115 : q_57.2.2.length = q_41.2.2.length := (congrArg List.length a_60.2)
            have hTq_107 : TC q_107 := by rw [eq_107]; exact tc_law a_59 (by omega) (show 0 ≤ (0 : Int) by omega) (show (0 : Int) ≤ (q_57.2.2.length : Int) by omega)
            have hFq_107 : cFr [3, 4, 5, 6, 7] [(1, 1), (1, 2), (1, 3), (1, 6), (1, 8), (1, 9), (2, 2), (2, 3), (2, 4)] q q_107 := by rw [eq_107]; exact hFq_57.i (by decide)
            try have t_116 : Int32.toInt (x2_58 + 1) = Int32.toInt x2_58 + 1 := ti_add rfl (by decide) (by omega) (by omega)
            exact hk_55 (q_107, (x2_58 + 1)) (show (TC q_107) ∧ (cFr [7] [] q_41 q_107) ∧ (0 ≤ Int32.toInt (x2_58 + 1)) ∧ (Int32.toInt (x2_58 + 1) ≤ 6) from ⟨hTq_107, (by rw [eq_107]; exact (((cFr.rf : cFr [7] [] q_41 q_41).t a_60 (by decide) (by decide)) : cFr [7] [] q_41 q_57).i (by decide)), by omega, by omega⟩) (show (6 - Int32.toInt (x2_58 + 1)).toNat < (6 - Int32.toInt x2_58).toNat by omega)
          · have n_117 : q_6.2.2.length = q.2.2.length := (congrArg List.length i_9.2)
            have n_118 : q_10.2.2.length = q_6.2.2.length := (by rw [eq_10]; rfl)
            have n_119 : q_14.2.2.length = q_10.2.2.length := (by rw [eq_14]; rfl)
            have n_120 : q_17.2.2.length = q_14.2.2.length := (by rw [eq_17]; rfl)
            have n_121 : q_21.2.2.length = q_17.2.2.length := (by rw [eq_21]; rfl)
            have n_122 : q_33.2.2.length = q_21.2.2.length := (congrArg List.length a_36.2)
            have n_123 : q_41.2.2.length = q_33.2.2.length := (by rw [eq_41]; rfl)
            have n_124 : q_57.2.2.length = q_41.2.2.length := (congrArg List.length a_60.2)
            have g_125 : dlg q_57 v_101 = true := tc_dlg a_59 (show ¬ Int32.toInt v_101 = 0 by omega) (show 0 ≤ Int32.toInt v_101 by omega) (show Int32.toInt v_101 ≤ (q_57.2.2.length : Int) by omega)
            refine dOk_G g_125 ?_
            refine dOk_L (fun q_126 eq_126 => ?_)
            have hTq_126 : TC q_126 := by rw [eq_126]; exact tc_law a_59 (by omega) (show 0 ≤ Int32.toInt v_101 by omega) (show Int32.toInt v_101 ≤ (q_57.2.2.length : Int) by omega)
            have hFq_126 : cFr [3, 4, 5, 6, 7] [(1, 1), (1, 2), (1, 3), (1, 6), (1, 8), (1, 9), (2, 2), (2, 3), (2, 4)] q q_126 := by rw [eq_126]; exact hFq_57.i (by decide)
            try have t_127 : Int32.toInt (x2_58 + 1) = Int32.toInt x2_58 + 1 := ti_add rfl (by decide) (by omega) (by omega)
            exact hk_55 (q_126, (x2_58 + 1)) (show (TC q_126) ∧ (cFr [7] [] q_41 q_126) ∧ (0 ≤ Int32.toInt (x2_58 + 1)) ∧ (Int32.toInt (x2_58 + 1) ≤ 6) from ⟨hTq_126, (by rw [eq_126]; exact (((cFr.rf : cFr [7] [] q_41 q_41).t a_60 (by decide) (by decide)) : cFr [7] [] q_41 q_57).i (by decide)), by omega, by omega⟩) (show (6 - Int32.toInt (x2_58 + 1)).toNat < (6 - Int32.toInt x2_58).toNat by omega)
      · exact (show (TC q_41) ∧ (cFr [7] [] q_41 q_41) ∧ (0 ≤ (0 : Int)) ∧ ((0 : Int) ≤ 6) from ⟨hTq_41, cFr.rf, by omega, by omega⟩)
      · show (6 - (0 : Int)).toNat < 1000000000000
        omega
    · refine dOk_G (dg_ok (show 0 ≤ Int32.toInt x2_34 by omega) (show Int32.toInt x2_34 < ((6 : Nat) : Int) by omega)) ?_
      have n_128 : ((Int32.toNatClampNeg x2_34 : Nat) : Int) = Int32.toInt x2_34 := cl_eq (by omega)
      refine dOk_L (fun v_129 ev_129 => ?_)
      refine dOk_G (dg_ok (show 0 ≤ Int32.toInt x2_34 by omega) (show Int32.toInt x2_34 < ((6 : Nat) : Int) by omega)) ?_
      refine dOk_L (fun q_130 eq_130 => ?_)
      have hTq_130 : TC q_130 := by rw [eq_130]; exact sa_5 a_35
      have hFq_130 : cFr [3, 4, 5, 6, 7] [(1, 1), (1, 2), (1, 3), (1, 6), (1, 8), (1, 9), (2, 2), (2, 3), (2, 4)] q q_130 := by rw [eq_130]; exact hFq_33.i (by decide)
      refine dOk_G (dg_ok (show 0 ≤ Int32.toInt x2_34 by omega) (show Int32.toInt x2_34 < ((6 : Nat) : Int) by omega)) ?_
      refine dOk_L (fun v_131 ev_131 => ?_)
      refine dOk_G (dg_ok (show 0 ≤ Int32.toInt x2_34 by omega) (show Int32.toInt x2_34 < ((6 : Nat) : Int) by omega)) ?_
      refine dOk_L (fun q_132 eq_132 => ?_)
      have hTq_132 : TC q_132 := by rw [eq_132]; exact sa_6 hTq_130
      have hFq_132 : cFr [3, 4, 5, 6, 7] [(1, 1), (1, 2), (1, 3), (1, 6), (1, 8), (1, 9), (2, 2), (2, 3), (2, 4)] q q_132 := by rw [eq_132]; exact hFq_130.i (by decide)
      try have t_133 : Int32.toInt (x2_34 + 1) = Int32.toInt x2_34 + 1 := ti_add rfl (by decide) (by omega) (by omega)
      exact hk_31 (q_132, (x2_34 + 1)) (show (TC q_132) ∧ (cFr [5, 6] [] q_21 q_132) ∧ (0 ≤ Int32.toInt (x2_34 + 1)) ∧ (Int32.toInt (x2_34 + 1) ≤ 6) from ⟨hTq_132, (by rw [eq_132]; exact ((by rw [eq_130]; exact (((cFr.rf : cFr [5, 6] [] q_21 q_21).t a_36 (by decide) (by decide)) : cFr [5, 6] [] q_21 q_33).i (by decide)) : cFr [5, 6] [] q_21 q_130).i (by decide)), by omega, by omega⟩) (show (6 - Int32.toInt (x2_34 + 1)).toNat < (6 - Int32.toInt x2_34).toNat by omega)
  · exact (show (TC q_21) ∧ (cFr [5, 6] [] q_21 q_21) ∧ (0 ≤ (0 : Int)) ∧ ((0 : Int) ≤ 6) from ⟨hTq_21, cFr.rf, by omega, by omega⟩)
  · show (6 - (0 : Int)).toNat < 1000000000000
    omega
end
section
set_option maxHeartbeats 4000000 in
set_option maxRecDepth 100000 in
theorem ok_X6_copyFrom_s1_s56 (q : dK) (hT : TC q) : dOk (zX6_copyFrom_s1_s56 q) (fun (o : dK) => (TC o) ∧ (cFr [3, 4, 5, 6, 7] [(1, 1), (1, 2), (1, 3), (1, 6), (1, 8), (1, 9), (2, 2), (2, 3), (2, 4)] q o) ∧ (Int32.toInt (o.1 1 6) = Int32.toInt (q.1 56 6)) ∧ (Int32.toInt (o.1 1 1) = Int32.toInt (q.1 56 1))) := by
  unfold zX6_copyFrom_s1_s56
  refine dOk_B (ok_X8_pack_s57 q hT) (fun r_1 q_2 h_3 => ?_)
  replace h_3 : (q_2 = q) ∧ (0 ≤ Int64.toInt r_1) := h_3
  obtain ⟨i_4, i_5⟩ := h_3
  subst q_2
  refine dOk_V (ok_X8_unpack_s2 q (r_1) hT (show 0 ≤ Int64.toInt (r_1) by omega)) (fun q_6 h_7 => ?_)
  replace h_7 : (TC q_6) ∧ (cFr [3, 4] [(2, 2), (2, 3), (2, 4)] q q_6) := h_7
  obtain ⟨i_8, i_9⟩ := h_7
  have hFq_6 : cFr [3, 4, 5, 6, 7] [(1, 1), (1, 2), (1, 3), (1, 6), (1, 8), (1, 9), (2, 2), (2, 3), (2, 4)] q q_6 := (cFr.rf (q := q)).t i_9 (by decide) (by decide)
  refine dOk_L (fun q_10 eq_10 => ?_)
  have f_11 : 0 ≤ Int32.toInt (q_6.1 56 1) ∧ Int32.toInt (q_6.1 56 1) ≤ 10 := rg_56_1 i_8
  have f_12 : 0 ≤ Int32.toInt (q.1 56 1) ∧ Int32.toInt (q.1 56 1) ≤ 10 := rg_56_1 hT
  have w_13 : Int32.toInt (q_6.1 56 1) = Int32.toInt (q.1 56 1) := by rw [i_9.1 56 1 (by decide) (by decide)]
  have hTq_10 : TC q_10 := by rw [eq_10]; exact st_1_1 i_8 (show (0 : Int) ≤ Int32.toInt (q_6.1 56 1) by omega) (show Int32.toInt (q_6.1 56 1) ≤ (10 : Int) by omega)
  have hFq_10 : cFr [3, 4, 5, 6, 7] [(1, 1), (1, 2), (1, 3), (1, 6), (1, 8), (1, 9), (2, 2), (2, 3), (2, 4)] q q_10 := by rw [eq_10]; exact hFq_6.f (by decide)
  refine dOk_L (fun q_14 eq_14 => ?_)
  have w_15 : Int32.toInt (q_6.1 56 2) = Int32.toInt (q.1 56 2) := by rw [i_9.1 56 2 (by decide) (by decide)]
  have w_16 : Int32.toInt (q_10.1 56 2) = Int32.toInt (q_6.1 56 2) := by rw [eq_10, cui_o (by decide)]
  have hTq_14 : TC q_14 := by rw [eq_14]; exact sa_1_2 hTq_10
  have hFq_14 : cFr [3, 4, 5, 6, 7] [(1, 1), (1, 2), (1, 3), (1, 6), (1, 8), (1, 9), (2, 2), (2, 3), (2, 4)] q q_14 := by rw [eq_14]; exact hFq_10.f (by decide)
  refine dOk_L (fun q_17 eq_17 => ?_)
  have w_18 : Int32.toInt (q_6.1 56 3) = Int32.toInt (q.1 56 3) := by rw [i_9.1 56 3 (by decide) (by decide)]
  have w_19 : Int32.toInt (q_10.1 56 3) = Int32.toInt (q_6.1 56 3) := by rw [eq_10, cui_o (by decide)]
  have w_20 : Int32.toInt (q_14.1 56 3) = Int32.toInt (q_10.1 56 3) := by rw [eq_14, cui_o (by decide)]
  have hTq_17 : TC q_17 := by rw [eq_17]; exact sa_1_3 hTq_14
  have hFq_17 : cFr [3, 4, 5, 6, 7] [(1, 1), (1, 2), (1, 3), (1, 6), (1, 8), (1, 9), (2, 2), (2, 3), (2, 4)] q q_17 := by rw [eq_17]; exact hFq_14.f (by decide)
  refine dOk_L (fun q_21 eq_21 => ?_)
  have f_22 : 0 ≤ Int32.toInt (q_17.1 56 6) ∧ Int32.toInt (q_17.1 56 6) ≤ 6 := rg_56_6 hTq_17
  have f_23 : 0 ≤ Int32.toInt (q_14.1 56 6) ∧ Int32.toInt (q_14.1 56 6) ≤ 6 := rg_56_6 hTq_14
  have f_24 : 0 ≤ Int32.toInt (q_10.1 56 6) ∧ Int32.toInt (q_10.1 56 6) ≤ 6 := rg_56_6 hTq_10
  have f_25 : 0 ≤ Int32.toInt (q_6.1 56 6) ∧ Int32.toInt (q_6.1 56 6) ≤ 6 := rg_56_6 i_8
  have f_26 : 0 ≤ Int32.toInt (q.1 56 6) ∧ Int32.toInt (q.1 56 6) ≤ 6 := rg_56_6 hT
  have w_27 : Int32.toInt (q_6.1 56 6) = Int32.toInt (q.1 56 6) := by rw [i_9.1 56 6 (by decide) (by decide)]
  have w_28 : Int32.toInt (q_10.1 56 6) = Int32.toInt (q_6.1 56 6) := by rw [eq_10, cui_o (by decide)]
  have w_29 : Int32.toInt (q_14.1 56 6) = Int32.toInt (q_10.1 56 6) := by rw [eq_14, cui_o (by decide)]
  have w_30 : Int32.toInt (q_17.1 56 6) = Int32.toInt (q_14.1 56 6) := by rw [eq_17, cui_o (by decide)]
  have hTq_21 : TC q_21 := by rw [eq_21]; exact st_1_6 hTq_17 (show (0 : Int) ≤ Int32.toInt (q_17.1 56 6) by omega) (show Int32.toInt (q_17.1 56 6) ≤ (6 : Int) by omega)
  have hFq_21 : cFr [3, 4, 5, 6, 7] [(1, 1), (1, 2), (1, 3), (1, 6), (1, 8), (1, 9), (2, 2), (2, 3), (2, 4)] q q_21 := by rw [eq_21]; exact hFq_17.f (by decide)
  unfold zX6_copyFrom_s1_s56_48
  refine dFix_ok (fun (a : dK × Int32) => (TC a.1) ∧ (cFr [5, 6] [] q_21 a.1) ∧ (0 ≤ Int32.toInt a.2) ∧ (Int32.toInt a.2 ≤ 6)) (fun (a : dK × Int32) => (6 - Int32.toInt a.2).toNat) ?_ _ ?_ _ (dF_gt ?_)
  · intro a ha k_32 hk_31
    obtain ⟨q_33, x2_34⟩ := a
    replace ha : (TC q_33) ∧ (cFr [5, 6] [] q_21 q_33) ∧ (0 ≤ Int32.toInt x2_34) ∧ (Int32.toInt x2_34 ≤ 6) := ha
    obtain ⟨a_35, a_36, a_37, a_38⟩ := ha
    show dOk (zX6_copyFrom_s1_s56_48b  (fun q x2 => k_32 (q, x2)) q_33 x2_34) _
    unfold zX6_copyFrom_s1_s56_48b
    have hFq_33 : cFr [3, 4, 5, 6, 7] [(1, 1), (1, 2), (1, 3), (1, 6), (1, 8), (1, 9), (2, 2), (2, 3), (2, 4)] q q_33 := hFq_21.t a_36 (by decide) (by decide)
    refine dOk_le (A := 6) (B := Int32.toInt x2_34) (by decide) rfl (fun c_39 => ?_) (fun c_40 => ?_)
    · refine dOk_L (fun q_41 eq_41 => ?_)
      have f_42 : 0 ≤ Int32.toInt (q_33.1 56 8) ∧ Int32.toInt (q_33.1 56 8) ≤ 6 := rg_56_8 a_35
      have f_43 : 0 ≤ Int32.toInt (q_21.1 56 8) ∧ Int32.toInt (q_21.1 56 8) ≤ 6 := rg_56_8 hTq_21
      have f_44 : 0 ≤ Int32.toInt (q_17.1 56 8) ∧ Int32.toInt (q_17.1 56 8) ≤ 6 := rg_56_8 hTq_17
      have f_45 : 0 ≤ Int32.toInt (q_14.1 56 8) ∧ Int32.toInt (q_14.1 56 8) ≤ 6 := rg_56_8 hTq_14
      have f_46 : 0 ≤ Int32.toInt (q_10.1 56 8) ∧ Int32.toInt (q_10.1 56 8) ≤ 6 := rg_56_8 hTq_10
      have f_47 : 0 ≤ Int32.toInt (q_6.1 56 8) ∧ Int32.toInt (q_6.1 56 8) ≤ 6 := rg_56_8 i_8
      have f_48 : 0 ≤ Int32.toInt (q.1 56 8) ∧ Int32.toInt (q.1 56 8) ≤ 6 := rg_56_8 hT
      have w_49 : Int32.toInt (q_6.1 56 8) = Int32.toInt (q.1 56 8) := by rw [i_9.1 56 8 (by decide) (by decide)]
      have w_50 : Int32.toInt (q_10.1 56 8) = Int32.toInt (q_6.1 56 8) := by rw [eq_10, cui_o (by decide)]
      have w_51 : Int32.toInt (q_14.1 56 8) = Int32.toInt (q_10.1 56 8) := by rw [eq_14, cui_o (by decide)]
      have w_52 : Int32.toInt (q_17.1 56 8) = Int32.toInt (q_14.1 56 8) := by rw [eq_17, cui_o (by decide)]
      have w_53 : Int32.toInt (q_21.1 56 8) = Int32.toInt (q_17.1 56 8) := by rw [eq_21, cui_o (by decide)]
      have w_54 : Int32.toInt (q_33.1 56 8) = Int32.toInt (q_21.1 56 8) := by rw [a_36.1 56 8 (by decide) (by decide)]
      have hTq_41 : TC q_41 := by rw [eq_41]; exact st_1_8 a_35 (show (0 : Int) ≤ Int32.toInt (q_33.1 56 8) by omega) (show Int32.toInt (q_33.1 56 8) ≤ (6 : Int) by omega)
      have hFq_41 : cFr [3, 4, 5, 6, 7] [(1, 1), (1, 2), (1, 3), (1, 6), (1, 8), (1, 9), (2, 2), (2, 3), (2, 4)] q q_41 := by rw [eq_41]; exact hFq_33.f (by decide)
      unfold zX6_copyFrom_s1_s56_94
      refine dFix_ok (fun (a : dK × Int32) => (TC a.1) ∧ (cFr [7] [] q_41 a.1) ∧ (0 ≤ Int32.toInt a.2) ∧ (Int32.toInt a.2 ≤ 6)) (fun (a : dK × Int32) => (6 - Int32.toInt a.2).toNat) ?_ _ ?_ _ (dF_gt ?_)
      · intro a ha k_56 hk_55
        obtain ⟨q_57, x2_58⟩ := a
        replace ha : (TC q_57) ∧ (cFr [7] [] q_41 q_57) ∧ (0 ≤ Int32.toInt x2_58) ∧ (Int32.toInt x2_58 ≤ 6) := ha
        obtain ⟨a_59, a_60, a_61, a_62⟩ := ha
        show dOk (zX6_copyFrom_s1_s56_94b  (fun q x2 => k_56 (q, x2)) q_57 x2_58) _
        unfold zX6_copyFrom_s1_s56_94b
        have hFq_57 : cFr [3, 4, 5, 6, 7] [(1, 1), (1, 2), (1, 3), (1, 6), (1, 8), (1, 9), (2, 2), (2, 3), (2, 4)] q q_57 := hFq_41.t a_60 (by decide) (by decide)
        refine dOk_le (A := 6) (B := Int32.toInt x2_58) (by decide) rfl (fun c_63 => ?_) (fun c_64 => ?_)
        · refine dOk_L (fun q_65 eq_65 => ?_)
          have w_66 : Int32.toInt (q_6.1 56 9) = Int32.toInt (q.1 56 9) := by rw [i_9.1 56 9 (by decide) (by decide)]
          have w_67 : Int32.toInt (q_10.1 56 9) = Int32.toInt (q_6.1 56 9) := by rw [eq_10, cui_o (by decide)]
          have w_68 : Int32.toInt (q_14.1 56 9) = Int32.toInt (q_10.1 56 9) := by rw [eq_14, cui_o (by decide)]
          have w_69 : Int32.toInt (q_17.1 56 9) = Int32.toInt (q_14.1 56 9) := by rw [eq_17, cui_o (by decide)]
          have w_70 : Int32.toInt (q_21.1 56 9) = Int32.toInt (q_17.1 56 9) := by rw [eq_21, cui_o (by decide)]
          have w_71 : Int32.toInt (q_33.1 56 9) = Int32.toInt (q_21.1 56 9) := by rw [a_36.1 56 9 (by decide) (by decide)]
          have w_72 : Int32.toInt (q_41.1 56 9) = Int32.toInt (q_33.1 56 9) := by rw [eq_41, cui_o (by decide)]
          have w_73 : Int32.toInt (q_57.1 56 9) = Int32.toInt (q_41.1 56 9) := by rw [a_60.1 56 9 (by decide) (by decide)]
          have hTq_65 : TC q_65 := by rw [eq_65]; exact sa_1_9 a_59
          have hFq_65 : cFr [3, 4, 5, 6, 7] [(1, 1), (1, 2), (1, 3), (1, 6), (1, 8), (1, 9), (2, 2), (2, 3), (2, 4)] q q_65 := by rw [eq_65]; exact hFq_57.f (by decide)
          have f_74 : 0 ≤ Int32.toInt (q_65.1 1 6) ∧ Int32.toInt (q_65.1 1 6) ≤ 6 := rg_1_6 hTq_65
          have f_75 : 0 ≤ Int32.toInt (q_57.1 1 6) ∧ Int32.toInt (q_57.1 1 6) ≤ 6 := rg_1_6 a_59
          have f_76 : 0 ≤ Int32.toInt (q_41.1 1 6) ∧ Int32.toInt (q_41.1 1 6) ≤ 6 := rg_1_6 hTq_41
          have f_77 : 0 ≤ Int32.toInt (q_33.1 1 6) ∧ Int32.toInt (q_33.1 1 6) ≤ 6 := rg_1_6 a_35
          have f_78 : 0 ≤ Int32.toInt (q_21.1 1 6) ∧ Int32.toInt (q_21.1 1 6) ≤ 6 := rg_1_6 hTq_21
          have w_79 : Int32.toInt (q_21.1 1 6) = Int32.toInt (q_17.1 56 6) := by rw [eq_21, cui_e]
          have w_80 : Int32.toInt (q_33.1 1 6) = Int32.toInt (q_21.1 1 6) := by rw [a_36.1 1 6 (by decide) (by decide)]
          have w_81 : Int32.toInt (q_41.1 1 6) = Int32.toInt (q_33.1 1 6) := by rw [eq_41, cui_n (by decide)]
          have w_82 : Int32.toInt (q_57.1 1 6) = Int32.toInt (q_41.1 1 6) := by rw [a_60.1 1 6 (by decide) (by decide)]
          have w_83 : Int32.toInt (q_65.1 1 6) = Int32.toInt (q_57.1 1 6) := by rw [eq_65, cui_n (by decide)]
          have f_84 : 0 ≤ Int32.toInt (q_65.1 1 1) ∧ Int32.toInt (q_65.1 1 1) ≤ 10 := rg_1_1 hTq_65
          have f_85 : 0 ≤ Int32.toInt (q_57.1 1 1) ∧ Int32.toInt (q_57.1 1 1) ≤ 10 := rg_1_1 a_59
          have f_86 : 0 ≤ Int32.toInt (q_41.1 1 1) ∧ Int32.toInt (q_41.1 1 1) ≤ 10 := rg_1_1 hTq_41
          have f_87 : 0 ≤ Int32.toInt (q_33.1 1 1) ∧ Int32.toInt (q_33.1 1 1) ≤ 10 := rg_1_1 a_35
          have f_88 : 0 ≤ Int32.toInt (q_21.1 1 1) ∧ Int32.toInt (q_21.1 1 1) ≤ 10 := rg_1_1 hTq_21
          have f_89 : 0 ≤ Int32.toInt (q_17.1 1 1) ∧ Int32.toInt (q_17.1 1 1) ≤ 10 := rg_1_1 hTq_17
          have f_90 : 0 ≤ Int32.toInt (q_14.1 1 1) ∧ Int32.toInt (q_14.1 1 1) ≤ 10 := rg_1_1 hTq_14
          have f_91 : 0 ≤ Int32.toInt (q_10.1 1 1) ∧ Int32.toInt (q_10.1 1 1) ≤ 10 := rg_1_1 hTq_10
          have w_92 : Int32.toInt (q_10.1 1 1) = Int32.toInt (q_6.1 56 1) := by rw [eq_10, cui_e]
          have w_93 : Int32.toInt (q_14.1 1 1) = Int32.toInt (q_10.1 1 1) := by rw [eq_14, cui_n (by decide)]
          have w_94 : Int32.toInt (q_17.1 1 1) = Int32.toInt (q_14.1 1 1) := by rw [eq_17, cui_n (by decide)]
          have w_95 : Int32.toInt (q_21.1 1 1) = Int32.toInt (q_17.1 1 1) := by rw [eq_21, cui_n (by decide)]
          have w_96 : Int32.toInt (q_33.1 1 1) = Int32.toInt (q_21.1 1 1) := by rw [a_36.1 1 1 (by decide) (by decide)]
          have w_97 : Int32.toInt (q_41.1 1 1) = Int32.toInt (q_33.1 1 1) := by rw [eq_41, cui_n (by decide)]
          have w_98 : Int32.toInt (q_57.1 1 1) = Int32.toInt (q_41.1 1 1) := by rw [a_60.1 1 1 (by decide) (by decide)]
          have w_99 : Int32.toInt (q_65.1 1 1) = Int32.toInt (q_57.1 1 1) := by rw [eq_65, cui_n (by decide)]
          exact dOk_some (show (TC q_65) ∧ (cFr [3, 4, 5, 6, 7] [(1, 1), (1, 2), (1, 3), (1, 6), (1, 8), (1, 9), (2, 2), (2, 3), (2, 4)] q q_65) ∧ (Int32.toInt (q_65.1 1 6) = Int32.toInt (q.1 56 6)) ∧ (Int32.toInt (q_65.1 1 1) = Int32.toInt (q.1 56 1)) from ⟨hTq_65, hFq_65, by omega, by omega⟩)
        · refine dOk_G (dg_ok (show 0 ≤ Int32.toInt x2_58 by omega) (show Int32.toInt x2_58 < ((6 : Nat) : Int) by omega)) ?_
          have n_100 : ((Int32.toNatClampNeg x2_58 : Nat) : Int) = Int32.toInt x2_58 := cl_eq (by omega)
          refine dOk_L (fun v_101 ev_101 => ?_)
          have f_102 : 0 ≤ Int32.toInt v_101 ∧ Int32.toInt v_101 ≤ 2147483647 := by rw [ev_101]; exact rg_62 a_59 _
          have f_103 : Int32.toInt v_101 ≤ (q_57.2.2.length : Int) := by rw [ev_101]; exact (a_59.2.1.2 _).2.2.1
          refine dOk_G (dg_ok (show 0 ≤ Int32.toInt x2_58 by omega) (show Int32.toInt x2_58 < ((6 : Nat) : Int) by omega)) ?_
          refine dOk_eq (A := Int32.toInt v_101) (B := 0) rfl (by decide) (fun c_104z c_104 => ?_) (fun c_105z c_105 => ?_)
          · refine dOk_L (fun q_107 eq_107 => ?_)
            have n_108 : q_6.2.2.length = q.2.2.length := (congrArg List.length i_9.2)
            have n_109 : q_10.2.2.length = q_6.2.2.length := (by rw [eq_10]; rfl)
            have n_110 : q_14.2.2.length = q_10.2.2.length := (by rw [eq_14]; rfl)
            have n_111 : q_17.2.2.length = q_14.2.2.length := (by rw [eq_17]; rfl)
            have n_112 : q_21.2.2.length = q_17.2.2.length := (by rw [eq_21]; rfl)
            have n_113 : q_33.2.2.length = q_21.2.2.length := (congrArg List.length a_36.2)
            have n_114 : q_41.2.2.length = q_33.2.2.length := (by rw [eq_41]; rfl)
            have n_115 : q_57.2.2.length = q_41.2.2.length := (congrArg List.length a_60.2)
            have hTq_107 : TC q_107 := by rw [eq_107]; exact tc_law a_59 (by omega) (show 0 ≤ (0 : Int) by omega) (show (0 : Int) ≤ (q_57.2.2.length : Int) by omega)
            have hFq_107 : cFr [3, 4, 5, 6, 7] [(1, 1), (1, 2), (1, 3), (1, 6), (1, 8), (1, 9), (2, 2), (2, 3), (2, 4)] q q_107 := by rw [eq_107]; exact hFq_57.i (by decide)
            try have t_116 : Int32.toInt (x2_58 + 1) = Int32.toInt x2_58 + 1 := ti_add rfl (by decide) (by omega) (by omega)
            exact hk_55 (q_107, (x2_58 + 1)) (show (TC q_107) ∧ (cFr [7] [] q_41 q_107) ∧ (0 ≤ Int32.toInt (x2_58 + 1)) ∧ (Int32.toInt (x2_58 + 1) ≤ 6) from ⟨hTq_107, (by rw [eq_107]; exact (((cFr.rf : cFr [7] [] q_41 q_41).t a_60 (by decide) (by decide)) : cFr [7] [] q_41 q_57).i (by decide)), by omega, by omega⟩) (show (6 - Int32.toInt (x2_58 + 1)).toNat < (6 - Int32.toInt x2_58).toNat by omega)
          · have n_117 : q_6.2.2.length = q.2.2.length := (congrArg List.length i_9.2)
            have n_118 : q_10.2.2.length = q_6.2.2.length := (by rw [eq_10]; rfl)
            have n_119 : q_14.2.2.length = q_10.2.2.length := (by rw [eq_14]; rfl)
            have n_120 : q_17.2.2.length = q_14.2.2.length := (by rw [eq_17]; rfl)
            have n_121 : q_21.2.2.length = q_17.2.2.length := (by rw [eq_21]; rfl)
            have n_122 : q_33.2.2.length = q_21.2.2.length := (congrArg List.length a_36.2)
            have n_123 : q_41.2.2.length = q_33.2.2.length := (by rw [eq_41]; rfl)
            have n_124 : q_57.2.2.length = q_41.2.2.length := (congrArg List.length a_60.2)
            have g_125 : dlg q_57 v_101 = true := tc_dlg a_59 (show ¬ Int32.toInt v_101 = 0 by omega) (show 0 ≤ Int32.toInt v_101 by omega) (show Int32.toInt v_101 ≤ (q_57.2.2.length : Int) by omega)
            refine dOk_G g_125 ?_
            refine dOk_L (fun q_126 eq_126 => ?_)
            have hTq_126 : TC q_126 := by rw [eq_126]; exact tc_law a_59 (by omega) (show 0 ≤ Int32.toInt v_101 by omega) (show Int32.toInt v_101 ≤ (q_57.2.2.length : Int) by omega)
            have hFq_126 : cFr [3, 4, 5, 6, 7] [(1, 1), (1, 2), (1, 3), (1, 6), (1, 8), (1, 9), (2, 2), (2, 3), (2, 4)] q q_126 := by rw [eq_126]; exact hFq_57.i (by decide)
            try have t_127 : Int32.toInt (x2_58 + 1) = Int32.toInt x2_58 + 1 := ti_add rfl (by decide) (by omega) (by omega)
            exact hk_55 (q_126, (x2_58 + 1)) (show (TC q_126) ∧ (cFr [7] [] q_41 q_126) ∧ (0 ≤ Int32.toInt (x2_58 + 1)) ∧ (Int32.toInt (x2_58 + 1) ≤ 6) from ⟨hTq_126, (by rw [eq_126]; exact (((cFr.rf : cFr [7] [] q_41 q_41).t a_60 (by decide) (by decide)) : cFr [7] [] q_41 q_57).i (by decide)), by omega, by omega⟩) (show (6 - Int32.toInt (x2_58 + 1)).toNat < (6 - Int32.toInt x2_58).toNat by omega)
      · exact (show (TC q_41) ∧ (cFr [7] [] q_41 q_41) ∧ (0 ≤ (0 : Int)) ∧ ((0 : Int) ≤ 6) from ⟨hTq_41, cFr.rf, by omega, by omega⟩)
      · show (6 - (0 : Int)).toNat < 1000000000000
        omega
    · refine dOk_G (dg_ok (show 0 ≤ Int32.toInt x2_34 by omega) (show Int32.toInt x2_34 < ((6 : Nat) : Int) by omega)) ?_
      have n_128 : ((Int32.toNatClampNeg x2_34 : Nat) : Int) = Int32.toInt x2_34 := cl_eq (by omega)
      refine dOk_L (fun v_129 ev_129 => ?_)
      refine dOk_G (dg_ok (show 0 ≤ Int32.toInt x2_34 by omega) (show Int32.toInt x2_34 < ((6 : Nat) : Int) by omega)) ?_
      refine dOk_L (fun q_130 eq_130 => ?_)
      have hTq_130 : TC q_130 := by rw [eq_130]; exact sa_5 a_35
      have hFq_130 : cFr [3, 4, 5, 6, 7] [(1, 1), (1, 2), (1, 3), (1, 6), (1, 8), (1, 9), (2, 2), (2, 3), (2, 4)] q q_130 := by rw [eq_130]; exact hFq_33.i (by decide)
      refine dOk_G (dg_ok (show 0 ≤ Int32.toInt x2_34 by omega) (show Int32.toInt x2_34 < ((6 : Nat) : Int) by omega)) ?_
      refine dOk_L (fun v_131 ev_131 => ?_)
      refine dOk_G (dg_ok (show 0 ≤ Int32.toInt x2_34 by omega) (show Int32.toInt x2_34 < ((6 : Nat) : Int) by omega)) ?_
      refine dOk_L (fun q_132 eq_132 => ?_)
      have hTq_132 : TC q_132 := by rw [eq_132]; exact sa_6 hTq_130
      have hFq_132 : cFr [3, 4, 5, 6, 7] [(1, 1), (1, 2), (1, 3), (1, 6), (1, 8), (1, 9), (2, 2), (2, 3), (2, 4)] q q_132 := by rw [eq_132]; exact hFq_130.i (by decide)
      try have t_133 : Int32.toInt (x2_34 + 1) = Int32.toInt x2_34 + 1 := ti_add rfl (by decide) (by omega) (by omega)
      exact hk_31 (q_132, (x2_34 + 1)) (show (TC q_132) ∧ (cFr [5, 6] [] q_21 q_132) ∧ (0 ≤ Int32.toInt (x2_34 + 1)) ∧ (Int32.toInt (x2_34 + 1) ≤ 6) from ⟨hTq_132, (by rw [eq_132]; exact ((by rw [eq_130]; exact (((cFr.rf : cFr [5, 6] [] q_21 q_21).t a_36 (by decide) (by decide)) : cFr [5, 6] [] q_21 q_33).i (by decide)) : cFr [5, 6] [] q_21 q_130).i (by decide)), by omega, by omega⟩) (show (6 - Int32.toInt (x2_34 + 1)).toNat < (6 - Int32.toInt x2_34).toNat by omega)
  · exact (show (TC q_21) ∧ (cFr [5, 6] [] q_21 q_21) ∧ (0 ≤ (0 : Int)) ∧ ((0 : Int) ≤ 6) from ⟨hTq_21, cFr.rf, by omega, by omega⟩)
  · show (6 - (0 : Int)).toNat < 1000000000000
    omega

set_option maxHeartbeats 4000000 in
set_option maxRecDepth 100000 in
theorem ok_X9_image_s0 (q : dK) (p1 : Int32) (hT : TC q) : dOk (zX9_image_s0 q p1) (fun (o : Int32 × dK) => (TC o.2) ∧ (cFr [9, 48, 51, 52, 53, 54, 55, 58, 59, 60, 61, 62] [(0, 18), (49, 1), (49, 2), (49, 3), (49, 6), (49, 8), (49, 9), (50, 2), (50, 3), (50, 4), (56, 1), (56, 2), (56, 3), (56, 6), (56, 8), (56, 9), (57, 2), (57, 3), (57, 4)] q o.2)) := by
  unfold zX9_image_s0
  refine dOk_V (ok_X9_isImage p1) (fun r_1 h_2 => ?_)
  replace h_2 : ((Int32.toInt r_1 = 1 ∧ 0 ≤ Int32.toInt p1 ∧ Int32.toInt p1 ≤ 1) ∨ (Int32.toInt r_1 = 0)) := h_2
  have i_3 := h_2
  refine dOk_eq (A := Int32.toInt r_1) (B := 0) rfl (by decide) (fun c_4z c_4 => ?_) (fun c_5z c_5 => ?_)
  · refine dOk_B (ok_X9_refuse_s0 q (-1) hT) (fun r_7 q_8 h_9 => ?_)
    replace h_9 : (TC q_8) ∧ (cFr [48] [(0, 18)] q q_8) ∧ (Int32.toInt r_7 = (-1 : Int)) := h_9
    obtain ⟨i_10, i_11, i_12⟩ := h_9
    have hFq_8 : cFr [9, 48, 51, 52, 53, 54, 55, 58, 59, 60, 61, 62] [(0, 18), (49, 1), (49, 2), (49, 3), (49, 6), (49, 8), (49, 9), (50, 2), (50, 3), (50, 4), (56, 1), (56, 2), (56, 3), (56, 6), (56, 8), (56, 9), (57, 2), (57, 3), (57, 4)] q q_8 := (cFr.rf (q := q)).t i_11 (by decide) (by decide)
    exact dOk_some (show (TC q_8) ∧ (cFr [9, 48, 51, 52, 53, 54, 55, 58, 59, 60, 61, 62] [(0, 18), (49, 1), (49, 2), (49, 3), (49, 6), (49, 8), (49, 9), (50, 2), (50, 3), (50, 4), (56, 1), (56, 2), (56, 3), (56, 6), (56, 8), (56, 9), (57, 2), (57, 3), (57, 4)] q q_8) from ⟨i_10, hFq_8⟩)
  · refine dOk_G (dg_ok (show 0 ≤ Int32.toInt p1 by omega) (show Int32.toInt p1 < ((2 : Nat) : Int) by omega)) ?_
    have n_13 : ((Int32.toNatClampNeg p1 : Nat) : Int) = Int32.toInt p1 := cl_eq (by omega)
    refine dOk_eq (A := Int32.toInt p1) (B := 0) rfl (by decide) (fun c_14z c_14 => ?_) (fun c_15z c_15 => ?_)
    · refine dOk_V (ok_X6_copyFrom_s49_s1 q hT) (fun q_17 h_18 => ?_)
      replace h_18 : (TC q_17) ∧ (cFr [51, 52, 53, 54, 55] [(49, 1), (49, 2), (49, 3), (49, 6), (49, 8), (49, 9), (50, 2), (50, 3), (50, 4)] q q_17) ∧ (Int32.toInt (q_17.1 49 6) = Int32.toInt (q.1 1 6)) ∧ (Int32.toInt (q_17.1 49 1) = Int32.toInt (q.1 1 1)) := h_18
      obtain ⟨i_19, i_20, i_21, i_22⟩ := h_18
      have hFq_17 : cFr [9, 48, 51, 52, 53, 54, 55, 58, 59, 60, 61, 62] [(0, 18), (49, 1), (49, 2), (49, 3), (49, 6), (49, 8), (49, 9), (50, 2), (50, 3), (50, 4), (56, 1), (56, 2), (56, 3), (56, 6), (56, 8), (56, 9), (57, 2), (57, 3), (57, 4)] q q_17 := (cFr.rf (q := q)).t i_20 (by decide) (by decide)
      have f_23 : 0 ≤ Int32.toInt (q_17.1 49 6) ∧ Int32.toInt (q_17.1 49 6) ≤ 6 := rg_49_6 i_19
      have f_24 : 0 ≤ Int32.toInt (q.1 1 6) ∧ Int32.toInt (q.1 1 6) ≤ 6 := rg_1_6 hT
      have f_25 : 0 ≤ Int32.toInt (q_17.1 49 1) ∧ Int32.toInt (q_17.1 49 1) ≤ 10 := rg_49_1 i_19
      have f_26 : 0 ≤ Int32.toInt (q.1 1 1) ∧ Int32.toInt (q.1 1 1) ≤ 10 := rg_1_1 hT
      refine dOk_G (dg_ok (show 0 ≤ Int32.toInt p1 by omega) (show Int32.toInt p1 < ((2 : Nat) : Int) by omega)) ?_
      refine dOk_L (fun q_27 eq_27 => ?_)
      have hTq_27 : TC q_27 := by rw [eq_27]; exact sa_9 i_19
      have hFq_27 : cFr [9, 48, 51, 52, 53, 54, 55, 58, 59, 60, 61, 62] [(0, 18), (49, 1), (49, 2), (49, 3), (49, 6), (49, 8), (49, 9), (50, 2), (50, 3), (50, 4), (56, 1), (56, 2), (56, 3), (56, 6), (56, 8), (56, 9), (57, 2), (57, 3), (57, 4)] q q_27 := by rw [eq_27]; exact hFq_17.i (by decide)
      refine dOk_B (ok_X9_accept_s0 q_27 0 hTq_27) (fun r_28 q_29 h_30 => ?_)
      replace h_30 : (TC q_29) ∧ (cFr [] [(0, 18)] q_27 q_29) ∧ (Int32.toInt r_28 = (0 : Int)) := h_30
      obtain ⟨i_31, i_32, i_33⟩ := h_30
      have hFq_29 : cFr [9, 48, 51, 52, 53, 54, 55, 58, 59, 60, 61, 62] [(0, 18), (49, 1), (49, 2), (49, 3), (49, 6), (49, 8), (49, 9), (50, 2), (50, 3), (50, 4), (56, 1), (56, 2), (56, 3), (56, 6), (56, 8), (56, 9), (57, 2), (57, 3), (57, 4)] q q_29 := hFq_27.t i_32 (by decide) (by decide)
      exact dOk_some (show (TC q_29) ∧ (cFr [9, 48, 51, 52, 53, 54, 55, 58, 59, 60, 61, 62] [(0, 18), (49, 1), (49, 2), (49, 3), (49, 6), (49, 8), (49, 9), (50, 2), (50, 3), (50, 4), (56, 1), (56, 2), (56, 3), (56, 6), (56, 8), (56, 9), (57, 2), (57, 3), (57, 4)] q q_29) from ⟨i_31, hFq_29⟩)
    · refine dOk_G (decide_eq_true (Int32.toInt_inj.mp (show Int32.toInt p1 = (1 : Int) by rw [show (1 : Int) = (1 : Int) by decide]; omega))) ?_
      refine dOk_V (ok_X6_copyFrom_s56_s1 q hT) (fun q_34 h_35 => ?_)
      replace h_35 : (TC q_34) ∧ (cFr [58, 59, 60, 61, 62] [(56, 1), (56, 2), (56, 3), (56, 6), (56, 8), (56, 9), (57, 2), (57, 3), (57, 4)] q q_34) ∧ (Int32.toInt (q_34.1 56 6) = Int32.toInt (q.1 1 6)) ∧ (Int32.toInt (q_34.1 56 1) = Int32.toInt (q.1 1 1)) := h_35
      obtain ⟨i_36, i_37, i_38, i_39⟩ := h_35
      have hFq_34 : cFr [9, 48, 51, 52, 53, 54, 55, 58, 59, 60, 61, 62] [(0, 18), (49, 1), (49, 2), (49, 3), (49, 6), (49, 8), (49, 9), (50, 2), (50, 3), (50, 4), (56, 1), (56, 2), (56, 3), (56, 6), (56, 8), (56, 9), (57, 2), (57, 3), (57, 4)] q q_34 := (cFr.rf (q := q)).t i_37 (by decide) (by decide)
      have f_40 : 0 ≤ Int32.toInt (q_34.1 56 6) ∧ Int32.toInt (q_34.1 56 6) ≤ 6 := rg_56_6 i_36
      have f_41 : 0 ≤ Int32.toInt (q.1 1 6) ∧ Int32.toInt (q.1 1 6) ≤ 6 := rg_1_6 hT
      have f_42 : 0 ≤ Int32.toInt (q_34.1 56 1) ∧ Int32.toInt (q_34.1 56 1) ≤ 10 := rg_56_1 i_36
      have f_43 : 0 ≤ Int32.toInt (q.1 1 1) ∧ Int32.toInt (q.1 1 1) ≤ 10 := rg_1_1 hT
      refine dOk_G (dg_ok (show 0 ≤ Int32.toInt p1 by omega) (show Int32.toInt p1 < ((2 : Nat) : Int) by omega)) ?_
      refine dOk_L (fun q_44 eq_44 => ?_)
      have hTq_44 : TC q_44 := by rw [eq_44]; exact sa_9 i_36
      have hFq_44 : cFr [9, 48, 51, 52, 53, 54, 55, 58, 59, 60, 61, 62] [(0, 18), (49, 1), (49, 2), (49, 3), (49, 6), (49, 8), (49, 9), (50, 2), (50, 3), (50, 4), (56, 1), (56, 2), (56, 3), (56, 6), (56, 8), (56, 9), (57, 2), (57, 3), (57, 4)] q q_44 := by rw [eq_44]; exact hFq_34.i (by decide)
      refine dOk_B (ok_X9_accept_s0 q_44 0 hTq_44) (fun r_45 q_46 h_47 => ?_)
      replace h_47 : (TC q_46) ∧ (cFr [] [(0, 18)] q_44 q_46) ∧ (Int32.toInt r_45 = (0 : Int)) := h_47
      obtain ⟨i_48, i_49, i_50⟩ := h_47
      have hFq_46 : cFr [9, 48, 51, 52, 53, 54, 55, 58, 59, 60, 61, 62] [(0, 18), (49, 1), (49, 2), (49, 3), (49, 6), (49, 8), (49, 9), (50, 2), (50, 3), (50, 4), (56, 1), (56, 2), (56, 3), (56, 6), (56, 8), (56, 9), (57, 2), (57, 3), (57, 4)] q q_46 := hFq_44.t i_49 (by decide) (by decide)
      exact dOk_some (show (TC q_46) ∧ (cFr [9, 48, 51, 52, 53, 54, 55, 58, 59, 60, 61, 62] [(0, 18), (49, 1), (49, 2), (49, 3), (49, 6), (49, 8), (49, 9), (50, 2), (50, 3), (50, 4), (56, 1), (56, 2), (56, 3), (56, 6), (56, 8), (56, 9), (57, 2), (57, 3), (57, 4)] q q_46) from ⟨i_48, hFq_46⟩)

set_option maxHeartbeats 4000000 in
set_option maxRecDepth 100000 in
theorem ok_X9_back_s0 (q : dK) (p1 : Int32) (hT : TC q) : dOk (zX9_back_s0 q p1) (fun (o : Int32 × dK) => (TC o.2) ∧ (cFr [3, 4, 5, 6, 7, 48] [(0, 18), (1, 1), (1, 2), (1, 3), (1, 6), (1, 8), (1, 9), (2, 2), (2, 3), (2, 4), (10, 2)] q o.2)) := by
  unfold zX9_back_s0
  refine dOk_V (ok_X9_isImage p1) (fun r_1 h_2 => ?_)
  replace h_2 : ((Int32.toInt r_1 = 1 ∧ 0 ≤ Int32.toInt p1 ∧ Int32.toInt p1 ≤ 1) ∨ (Int32.toInt r_1 = 0)) := h_2
  have i_3 := h_2
  refine dOk_eq (A := Int32.toInt r_1) (B := 0) rfl (by decide) (fun c_4z c_4 => ?_) (fun c_5z c_5 => ?_)
  · refine dOk_B (ok_X9_refuse_s0 q (-1) hT) (fun r_7 q_8 h_9 => ?_)
    replace h_9 : (TC q_8) ∧ (cFr [48] [(0, 18)] q q_8) ∧ (Int32.toInt r_7 = (-1 : Int)) := h_9
    obtain ⟨i_10, i_11, i_12⟩ := h_9
    have hFq_8 : cFr [3, 4, 5, 6, 7, 48] [(0, 18), (1, 1), (1, 2), (1, 3), (1, 6), (1, 8), (1, 9), (2, 2), (2, 3), (2, 4), (10, 2)] q q_8 := (cFr.rf (q := q)).t i_11 (by decide) (by decide)
    exact dOk_some (show (TC q_8) ∧ (cFr [3, 4, 5, 6, 7, 48] [(0, 18), (1, 1), (1, 2), (1, 3), (1, 6), (1, 8), (1, 9), (2, 2), (2, 3), (2, 4), (10, 2)] q q_8) from ⟨i_10, hFq_8⟩)
  · refine dOk_G (dg_ok (show 0 ≤ Int32.toInt p1 by omega) (show Int32.toInt p1 < ((2 : Nat) : Int) by omega)) ?_
    have n_13 : ((Int32.toNatClampNeg p1 : Nat) : Int) = Int32.toInt p1 := cl_eq (by omega)
    refine dOk_L (fun v_14 ev_14 => ?_)
    refine dOk_eq (A := Int32.toInt v_14) (B := 0) rfl (by decide) (fun c_15z c_15 => ?_) (fun c_16z c_16 => ?_)
    · refine dOk_B (ok_X9_refuse_s0 q (-2) hT) (fun r_18 q_19 h_20 => ?_)
      replace h_20 : (TC q_19) ∧ (cFr [48] [(0, 18)] q q_19) ∧ (Int32.toInt r_18 = (-2 : Int)) := h_20
      obtain ⟨i_21, i_22, i_23⟩ := h_20
      have hFq_19 : cFr [3, 4, 5, 6, 7, 48] [(0, 18), (1, 1), (1, 2), (1, 3), (1, 6), (1, 8), (1, 9), (2, 2), (2, 3), (2, 4), (10, 2)] q q_19 := (cFr.rf (q := q)).t i_22 (by decide) (by decide)
      exact dOk_some (show (TC q_19) ∧ (cFr [3, 4, 5, 6, 7, 48] [(0, 18), (1, 1), (1, 2), (1, 3), (1, 6), (1, 8), (1, 9), (2, 2), (2, 3), (2, 4), (10, 2)] q q_19) from ⟨i_21, hFq_19⟩)
    · refine dOk_G (dg_ok (show 0 ≤ Int32.toInt p1 by omega) (show Int32.toInt p1 < ((2 : Nat) : Int) by omega)) ?_
      refine dOk_eq (A := Int32.toInt p1) (B := 0) rfl (by decide) (fun c_24z c_24 => ?_) (fun c_25z c_25 => ?_)
      · refine dOk_V (ok_X6_copyFrom_s1_s49 q hT) (fun q_27 h_28 => ?_)
        replace h_28 : (TC q_27) ∧ (cFr [3, 4, 5, 6, 7] [(1, 1), (1, 2), (1, 3), (1, 6), (1, 8), (1, 9), (2, 2), (2, 3), (2, 4)] q q_27) ∧ (Int32.toInt (q_27.1 1 6) = Int32.toInt (q.1 49 6)) ∧ (Int32.toInt (q_27.1 1 1) = Int32.toInt (q.1 49 1)) := h_28
        obtain ⟨i_29, i_30, i_31, i_32⟩ := h_28
        have hFq_27 : cFr [3, 4, 5, 6, 7, 48] [(0, 18), (1, 1), (1, 2), (1, 3), (1, 6), (1, 8), (1, 9), (2, 2), (2, 3), (2, 4), (10, 2)] q q_27 := (cFr.rf (q := q)).t i_30 (by decide) (by decide)
        have f_33 : 0 ≤ Int32.toInt (q_27.1 1 6) ∧ Int32.toInt (q_27.1 1 6) ≤ 6 := rg_1_6 i_29
        have f_34 : 0 ≤ Int32.toInt (q.1 49 6) ∧ Int32.toInt (q.1 49 6) ≤ 6 := rg_49_6 hT
        have f_35 : 0 ≤ Int32.toInt (q_27.1 1 1) ∧ Int32.toInt (q_27.1 1 1) ≤ 10 := rg_1_1 i_29
        have f_36 : 0 ≤ Int32.toInt (q.1 49 1) ∧ Int32.toInt (q.1 49 1) ≤ 10 := rg_49_1 hT
        refine dOk_V (ok_X0_clear_s10 q_27 i_29) (fun q_37 h_38 => ?_)
        replace h_38 : (TC q_37) ∧ (cFr [] [(10, 2)] q_27 q_37) := h_38
        obtain ⟨i_39, i_40⟩ := h_38
        have hFq_37 : cFr [3, 4, 5, 6, 7, 48] [(0, 18), (1, 1), (1, 2), (1, 3), (1, 6), (1, 8), (1, 9), (2, 2), (2, 3), (2, 4), (10, 2)] q q_37 := hFq_27.t i_40 (by decide) (by decide)
        refine dOk_B (ok_X9_accept_s0 q_37 0 i_39) (fun r_41 q_42 h_43 => ?_)
        replace h_43 : (TC q_42) ∧ (cFr [] [(0, 18)] q_37 q_42) ∧ (Int32.toInt r_41 = (0 : Int)) := h_43
        obtain ⟨i_44, i_45, i_46⟩ := h_43
        have hFq_42 : cFr [3, 4, 5, 6, 7, 48] [(0, 18), (1, 1), (1, 2), (1, 3), (1, 6), (1, 8), (1, 9), (2, 2), (2, 3), (2, 4), (10, 2)] q q_42 := hFq_37.t i_45 (by decide) (by decide)
        exact dOk_some (show (TC q_42) ∧ (cFr [3, 4, 5, 6, 7, 48] [(0, 18), (1, 1), (1, 2), (1, 3), (1, 6), (1, 8), (1, 9), (2, 2), (2, 3), (2, 4), (10, 2)] q q_42) from ⟨i_44, hFq_42⟩)
      · refine dOk_G (decide_eq_true (Int32.toInt_inj.mp (show Int32.toInt p1 = (1 : Int) by rw [show (1 : Int) = (1 : Int) by decide]; omega))) ?_
        refine dOk_V (ok_X6_copyFrom_s1_s56 q hT) (fun q_47 h_48 => ?_)
        replace h_48 : (TC q_47) ∧ (cFr [3, 4, 5, 6, 7] [(1, 1), (1, 2), (1, 3), (1, 6), (1, 8), (1, 9), (2, 2), (2, 3), (2, 4)] q q_47) ∧ (Int32.toInt (q_47.1 1 6) = Int32.toInt (q.1 56 6)) ∧ (Int32.toInt (q_47.1 1 1) = Int32.toInt (q.1 56 1)) := h_48
        obtain ⟨i_49, i_50, i_51, i_52⟩ := h_48
        have hFq_47 : cFr [3, 4, 5, 6, 7, 48] [(0, 18), (1, 1), (1, 2), (1, 3), (1, 6), (1, 8), (1, 9), (2, 2), (2, 3), (2, 4), (10, 2)] q q_47 := (cFr.rf (q := q)).t i_50 (by decide) (by decide)
        have f_53 : 0 ≤ Int32.toInt (q_47.1 1 6) ∧ Int32.toInt (q_47.1 1 6) ≤ 6 := rg_1_6 i_49
        have f_54 : 0 ≤ Int32.toInt (q.1 56 6) ∧ Int32.toInt (q.1 56 6) ≤ 6 := rg_56_6 hT
        have f_55 : 0 ≤ Int32.toInt (q_47.1 1 1) ∧ Int32.toInt (q_47.1 1 1) ≤ 10 := rg_1_1 i_49
        have f_56 : 0 ≤ Int32.toInt (q.1 56 1) ∧ Int32.toInt (q.1 56 1) ≤ 10 := rg_56_1 hT
        refine dOk_V (ok_X0_clear_s10 q_47 i_49) (fun q_57 h_58 => ?_)
        replace h_58 : (TC q_57) ∧ (cFr [] [(10, 2)] q_47 q_57) := h_58
        obtain ⟨i_59, i_60⟩ := h_58
        have hFq_57 : cFr [3, 4, 5, 6, 7, 48] [(0, 18), (1, 1), (1, 2), (1, 3), (1, 6), (1, 8), (1, 9), (2, 2), (2, 3), (2, 4), (10, 2)] q q_57 := hFq_47.t i_60 (by decide) (by decide)
        refine dOk_B (ok_X9_accept_s0 q_57 0 i_59) (fun r_61 q_62 h_63 => ?_)
        replace h_63 : (TC q_62) ∧ (cFr [] [(0, 18)] q_57 q_62) ∧ (Int32.toInt r_61 = (0 : Int)) := h_63
        obtain ⟨i_64, i_65, i_66⟩ := h_63
        have hFq_62 : cFr [3, 4, 5, 6, 7, 48] [(0, 18), (1, 1), (1, 2), (1, 3), (1, 6), (1, 8), (1, 9), (2, 2), (2, 3), (2, 4), (10, 2)] q q_62 := hFq_57.t i_65 (by decide) (by decide)
        exact dOk_some (show (TC q_62) ∧ (cFr [3, 4, 5, 6, 7, 48] [(0, 18), (1, 1), (1, 2), (1, 3), (1, 6), (1, 8), (1, 9), (2, 2), (2, 3), (2, 4), (10, 2)] q q_62) from ⟨i_64, hFq_62⟩)

set_option maxHeartbeats 4000000 in
set_option maxRecDepth 100000 in
theorem ok_X9_undo_s0 (q : dK) (hT : TC q) : dOk (zX9_undo_s0 q) (fun (o : Int32 × dK) => (TC o.2) ∧ (cFr [3, 4, 48] [(0, 18), (2, 2), (2, 3), (2, 4), (10, 2)] q o.2)) := by
  unfold zX9_undo_s0
  have f_1 : 0 ≤ Int32.toInt (q.1 10 2) ∧ Int32.toInt (q.1 10 2) ≤ 16 := rg_10_2 hT
  refine dOk_lt (A := 0) (B := Int32.toInt (q.1 10 2)) (by decide) rfl (fun c_2 => ?_) (fun c_3 => ?_)
  · refine dOk_L (fun q_4 eq_4 => ?_)
    try have t_5 : Int32.toInt (q.1 10 2 - 1) = Int32.toInt (q.1 10 2) - 1 := ti_sub rfl (by decide) (by omega) (by omega)
    have hTq_4 : TC q_4 := by rw [eq_4]; exact st_10_2 hT (show (0 : Int) ≤ Int32.toInt (q.1 10 2 - 1) by omega) (show Int32.toInt (q.1 10 2 - 1) ≤ (16 : Int) by omega)
    have hFq_4 : cFr [3, 4, 48] [(0, 18), (2, 2), (2, 3), (2, 4), (10, 2)] q q_4 := by rw [eq_4]; exact (cFr.rf (q := q)).f (by decide)
    have f_6 : 0 ≤ Int32.toInt (q_4.1 10 2) ∧ Int32.toInt (q_4.1 10 2) ≤ 16 := rg_10_2 hTq_4
    have w_7 : Int32.toInt (q_4.1 10 2) = Int32.toInt (q.1 10 2 - 1) := by rw [eq_4, cui_e]
    refine dOk_G (dg_ok (show 0 ≤ Int32.toInt (q_4.1 10 2) by omega) (show Int32.toInt (q_4.1 10 2) < ((16 : Nat) : Int) by omega)) ?_
    have n_8 : ((Int32.toNatClampNeg (q_4.1 10 2) : Nat) : Int) = Int32.toInt (q_4.1 10 2) := cl_eq (by omega)
    refine dOk_L (fun v_9 ev_9 => ?_)
    have f_10 : 0 ≤ Int64.toInt v_9 := by rw [ev_9]; exact (hTq_4.2.2.2.1 _).1
    refine dOk_V (ok_X8_unpack_s2 q_4 (v_9) hTq_4 (show 0 ≤ Int64.toInt (v_9) by omega)) (fun q_11 h_12 => ?_)
    replace h_12 : (TC q_11) ∧ (cFr [3, 4] [(2, 2), (2, 3), (2, 4)] q_4 q_11) := h_12
    obtain ⟨i_13, i_14⟩ := h_12
    have hFq_11 : cFr [3, 4, 48] [(0, 18), (2, 2), (2, 3), (2, 4), (10, 2)] q q_11 := hFq_4.t i_14 (by decide) (by decide)
    have f_15 : 0 ≤ Int32.toInt (q_11.1 10 2) ∧ Int32.toInt (q_11.1 10 2) ≤ 16 := rg_10_2 i_13
    have w_16 : Int32.toInt (q_11.1 10 2) = Int32.toInt (q_4.1 10 2) := by rw [i_14.1 10 2 (by decide) (by decide)]
    refine dOk_G (dg_ok (show 0 ≤ Int32.toInt (q_11.1 10 2) by omega) (show Int32.toInt (q_11.1 10 2) < ((16 : Nat) : Int) by omega)) ?_
    have n_17 : ((Int32.toNatClampNeg (q_11.1 10 2) : Nat) : Int) = Int32.toInt (q_11.1 10 2) := cl_eq (by omega)
    refine dOk_L (fun v_18 ev_18 => ?_)
    refine dOk_B (ok_X9_accept_s0 q_11 v_18 i_13) (fun r_19 q_20 h_21 => ?_)
    replace h_21 : (TC q_20) ∧ (cFr [] [(0, 18)] q_11 q_20) ∧ (Int32.toInt r_19 = Int32.toInt v_18) := h_21
    obtain ⟨i_22, i_23, i_24⟩ := h_21
    have hFq_20 : cFr [3, 4, 48] [(0, 18), (2, 2), (2, 3), (2, 4), (10, 2)] q q_20 := hFq_11.t i_23 (by decide) (by decide)
    exact dOk_some (show (TC q_20) ∧ (cFr [3, 4, 48] [(0, 18), (2, 2), (2, 3), (2, 4), (10, 2)] q q_20) from ⟨i_22, hFq_20⟩)
  · refine dOk_B (ok_X9_refuse_s0 q (-3) hT) (fun r_25 q_26 h_27 => ?_)
    replace h_27 : (TC q_26) ∧ (cFr [48] [(0, 18)] q q_26) ∧ (Int32.toInt r_25 = (-3 : Int)) := h_27
    obtain ⟨i_28, i_29, i_30⟩ := h_27
    have hFq_26 : cFr [3, 4, 48] [(0, 18), (2, 2), (2, 3), (2, 4), (10, 2)] q q_26 := (cFr.rf (q := q)).t i_29 (by decide) (by decide)
    exact dOk_some (show (TC q_26) ∧ (cFr [3, 4, 48] [(0, 18), (2, 2), (2, 3), (2, 4), (10, 2)] q q_26) from ⟨i_28, hFq_26⟩)
end
section
set_option maxHeartbeats 4000000 in
set_option maxRecDepth 100000 in
theorem ok_X9_count_s0 (q : dK) (p1 : Int32) (hT : TC q) : dOk (zX9_count_s0 q p1) (fun (o : Int32 × dK) => (o.2 = q)) := by
  unfold zX9_count_s0
  refine dOk_eq (A := Int32.toInt p1) (B := 0) rfl (by decide) (fun c_1z c_1 => ?_) (fun c_2z c_2 => ?_)
  · have f_4 : 0 ≤ Int32.toInt (q.1 2 2) ∧ Int32.toInt (q.1 2 2) ≤ 6 := rg_2_2 hT
    exact dOk_some (show (q = q) from rfl)
  · refine dOk_eq (A := Int32.toInt p1) (B := 1) rfl (by decide) (fun c_5z c_5 => ?_) (fun c_6z c_6 => ?_)
    · refine dOk_B (ok_X8_onHeads_s2 q hT) (fun r_8 q_9 h_10 => ?_)
      replace h_10 : (q_9 = q) := h_10
      have i_11 := h_10
      subst q_9
      exact dOk_some (show (q = q) from rfl)
    · refine dOk_eq (A := Int32.toInt p1) (B := 2) rfl (by decide) (fun c_12z c_12 => ?_) (fun c_13z c_13 => ?_)
      · have f_15 : 0 ≤ Int32.toInt (q.1 2 3) ∧ Int32.toInt (q.1 2 3) ≤ 16383 := rg_2_3 hT
        exact dOk_some (show (q = q) from rfl)
      · refine dOk_eq (A := Int32.toInt p1) (B := 3) rfl (by decide) (fun c_16z c_16 => ?_) (fun c_17z c_17 => ?_)
        · have f_19 : 0 ≤ Int32.toInt (q.1 1 6) ∧ Int32.toInt (q.1 1 6) ≤ 6 := rg_1_6 hT
          exact dOk_some (show (q = q) from rfl)
        · refine dOk_eq (A := Int32.toInt p1) (B := 4) rfl (by decide) (fun c_20z c_20 => ?_) (fun c_21z c_21 => ?_)
          · have f_23 : 0 ≤ Int32.toInt (q.1 1 8) ∧ Int32.toInt (q.1 1 8) ≤ 6 := rg_1_8 hT
            exact dOk_some (show (q = q) from rfl)
          · refine dOk_eq (A := Int32.toInt p1) (B := 5) rfl (by decide) (fun c_24z c_24 => ?_) (fun c_25z c_25 => ?_)
            · have f_27 : 0 ≤ Int32.toInt (q.1 10 2) ∧ Int32.toInt (q.1 10 2) ≤ 16 := rg_10_2 hT
              exact dOk_some (show (q = q) from rfl)
            · refine dOk_eq (A := Int32.toInt p1) (B := 6) rfl (by decide) (fun c_28z c_28 => ?_) (fun c_29z c_29 => ?_)
              · have f_31 : 0 ≤ Int32.toInt (q.1 0 12) ∧ Int32.toInt (q.1 0 12) ≤ 400 := rg_0_12 hT
                exact dOk_some (show (q = q) from rfl)
              · refine dOk_eq (A := Int32.toInt p1) (B := 7) rfl (by decide) (fun c_32z c_32 => ?_) (fun c_33z c_33 => ?_)
                · exact dOk_some (show (q = q) from rfl)
                · refine dOk_eq (A := Int32.toInt p1) (B := 8) rfl (by decide) (fun c_35z c_35 => ?_) (fun c_36z c_36 => ?_)
                  · exact dOk_some (show (q = q) from rfl)
                  · refine dOk_eq (A := Int32.toInt p1) (B := 9) rfl (by decide) (fun c_38z c_38 => ?_) (fun c_39z c_39 => ?_)
                    · exact dOk_some (show (q = q) from rfl)
                    · refine dOk_eq (A := Int32.toInt p1) (B := 10) rfl (by decide) (fun c_41z c_41 => ?_) (fun c_42z c_42 => ?_)
                      · exact dOk_some (show (q = q) from rfl)
                      · refine dOk_eq (A := Int32.toInt p1) (B := 11) rfl (by decide) (fun c_44z c_44 => ?_) (fun c_45z c_45 => ?_)
                        · exact dOk_some (show (q = q) from rfl)
                        · refine dOk_eq (A := Int32.toInt p1) (B := 12) rfl (by decide) (fun c_47z c_47 => ?_) (fun c_48z c_48 => ?_)
                          · exact dOk_some (show (q = q) from rfl)
                          · refine dOk_eq (A := Int32.toInt p1) (B := 13) rfl (by decide) (fun c_50z c_50 => ?_) (fun c_51z c_51 => ?_)
                            · try have t_53 : Int32.toInt (p1 - 13) = Int32.toInt p1 - 13 := ti_sub rfl (by decide) (by omega) (by omega)
                              refine dOk_B (ok_X6_term_s1 q (p1 - 13) hT) (fun r_54 q_55 h_56 => ?_)
                              replace h_56 : (q_55 = q) := h_56
                              have i_57 := h_56
                              subst q_55
                              exact dOk_some (show (q = q) from rfl)
                            · refine dOk_eq (A := Int32.toInt p1) (B := 14) rfl (by decide) (fun c_58z c_58 => ?_) (fun c_59z c_59 => ?_)
                              · try have t_61 : Int32.toInt (p1 - 13) = Int32.toInt p1 - 13 := ti_sub rfl (by decide) (by omega) (by omega)
                                refine dOk_B (ok_X6_term_s1 q (p1 - 13) hT) (fun r_62 q_63 h_64 => ?_)
                                replace h_64 : (q_63 = q) := h_64
                                have i_65 := h_64
                                subst q_63
                                exact dOk_some (show (q = q) from rfl)
                              · refine dOk_eq (A := Int32.toInt p1) (B := 15) rfl (by decide) (fun c_66z c_66 => ?_) (fun c_67z c_67 => ?_)
                                · try have t_69 : Int32.toInt (p1 - 13) = Int32.toInt p1 - 13 := ti_sub rfl (by decide) (by omega) (by omega)
                                  refine dOk_B (ok_X6_term_s1 q (p1 - 13) hT) (fun r_70 q_71 h_72 => ?_)
                                  replace h_72 : (q_71 = q) := h_72
                                  have i_73 := h_72
                                  subst q_71
                                  exact dOk_some (show (q = q) from rfl)
                                · refine dOk_eq (A := Int32.toInt p1) (B := 16) rfl (by decide) (fun c_74z c_74 => ?_) (fun c_75z c_75 => ?_)
                                  · try have t_77 : Int32.toInt (p1 - 13) = Int32.toInt p1 - 13 := ti_sub rfl (by decide) (by omega) (by omega)
                                    refine dOk_B (ok_X6_term_s1 q (p1 - 13) hT) (fun r_78 q_79 h_80 => ?_)
                                    replace h_80 : (q_79 = q) := h_80
                                    have i_81 := h_80
                                    subst q_79
                                    exact dOk_some (show (q = q) from rfl)
                                  · refine dOk_eq (A := Int32.toInt p1) (B := 17) rfl (by decide) (fun c_82z c_82 => ?_) (fun c_83z c_83 => ?_)
                                    · have f_85 : 0 ≤ Int32.toInt (q.1 2 2) ∧ Int32.toInt (q.1 2 2) ≤ 6 := rg_2_2 hT
                                      try have t_86 := ti_shlP (s := q.1 2 2) (by omega) (by omega)
                                      try have t_87 := ti_shl5 (x := 1) (s := q.1 2 2) (by decide) (by decide) (by omega) (by omega)
                                      try have t_88 := ti_shl6 (x := 1) (s := q.1 2 2) (by decide) (by decide) (by omega) (by omega)
                                      try have t_89 : Int32.toInt (1 <<< ((q.1 2 2 : Int32) &&& 31) - 1) = Int32.toInt (1 <<< ((q.1 2 2 : Int32) &&& 31)) - 1 := ti_sub rfl (by decide) (by omega) (by omega)
                                      refine dOk_B (ok_X8_rises_s2 q (1 <<< ((q.1 2 2 : Int32) &&& 31) - 1) (q.1 1 3) hT) (fun r_90 q_91 h_92 => ?_)
                                      replace h_92 : (q_91 = q) ∧ ((Int32.toInt r_90 = 0 ∨ Int32.toInt r_90 = 1)) := h_92
                                      obtain ⟨i_93, i_94⟩ := h_92
                                      subst q_91
                                      refine dOk_V (ok_X9_bit r_90) (fun r_95 h_96 => ?_)
                                      replace h_96 : ((Int32.toInt r_95 = 0 ∨ Int32.toInt r_95 = 1)) := h_96
                                      have i_97 := h_96
                                      exact dOk_some (show (q = q) from rfl)
                                    · exact dOk_some (show (q = q) from rfl)

set_option maxHeartbeats 4000000 in
set_option maxRecDepth 100000 in
theorem ok_X9_drawn_s0 (q : dK) (p1 : Int32) (p2 : Int32) (hT : TC q) : dOk (zX9_drawn_s0 q p1 p2) (fun (o : Int32 × dK) => (o.2 = q)) := by
  unfold zX9_drawn_s0
  refine dOk_B (ok_X8_tell_s15 q p1 p2 hT) (fun r_1 q_2 h_3 => ?_)
  replace h_3 : (q_2 = q) ∧ (-1 ≤ Int32.toInt r_1 ∧ Int32.toInt r_1 ≤ 7) := h_3
  obtain ⟨i_4, i_5⟩ := h_3
  subst q_2
  exact dOk_some (show (q = q) from rfl)

set_option maxHeartbeats 4000000 in
set_option maxRecDepth 100000 in
theorem ok_X2_join_s18 (q : dK) (p1 : Int32) (p2 : Int64) (p3 : Int64) (hT : TC q) : dOk (zX2_join_s18 q p1 p2 p3) (fun (o : Int32 × dK) => (TC o.2) ∧ (cFr [] [(18, 1)] q o.2)) := by
  unfold zX2_join_s18
  refine dOk_eq (A := Int32.toInt p1) (B := 2) rfl (by decide) (fun c_1z c_1 => ?_) (fun c_2z c_2 => ?_)
  · unfold zX2_join_s18_163
    refine dOk_lt rfl rfl (fun c9 => ?_) (fun c9 => ?_)
    · unfold zX2_join_s18_181
      refine dOk_L (fun q_4 eq_4 => ?_)
      have hTq_4 : TC q_4 := by rw [eq_4]; exact st_18_1 hT (show (0 : Int) ≤ (1 : Int) by omega) (show (1 : Int) ≤ (1 : Int) by omega)
      have hFq_4 : cFr [] [(18, 1)] q q_4 := by rw [eq_4]; exact (cFr.rf (q := q)).f (by decide)
      exact dOk_some (show (TC q_4) ∧ (cFr [] [(18, 1)] q q_4) from ⟨hTq_4, hFq_4⟩)
    · refine dOk_le rfl rfl (fun c9 => ?_) (fun c9 => ?_)
      · exact dOk_some (show (TC q) ∧ (cFr [] [(18, 1)] q q) from ⟨hT, (cFr.rf (q := q))⟩)
      · unfold zX2_join_s18_181
        refine dOk_L (fun q_5 eq_5 => ?_)
        have hTq_5 : TC q_5 := by rw [eq_5]; exact st_18_1 hT (show (0 : Int) ≤ (1 : Int) by omega) (show (1 : Int) ≤ (1 : Int) by omega)
        have hFq_5 : cFr [] [(18, 1)] q q_5 := by rw [eq_5]; exact (cFr.rf (q := q)).f (by decide)
        exact dOk_some (show (TC q_5) ∧ (cFr [] [(18, 1)] q q_5) from ⟨hTq_5, hFq_5⟩)
  · refine dOk_eq (A := Int32.toInt p1) (B := 3) rfl (by decide) (fun c_6z c_6 => ?_) (fun c_7z c_7 => ?_)
    · unfold zX2_join_s18_163
      refine dOk_lt rfl rfl (fun c9 => ?_) (fun c9 => ?_)
      · unfold zX2_join_s18_181
        refine dOk_L (fun q_9 eq_9 => ?_)
        have hTq_9 : TC q_9 := by rw [eq_9]; exact st_18_1 hT (show (0 : Int) ≤ (1 : Int) by omega) (show (1 : Int) ≤ (1 : Int) by omega)
        have hFq_9 : cFr [] [(18, 1)] q q_9 := by rw [eq_9]; exact (cFr.rf (q := q)).f (by decide)
        exact dOk_some (show (TC q_9) ∧ (cFr [] [(18, 1)] q q_9) from ⟨hTq_9, hFq_9⟩)
      · refine dOk_le rfl rfl (fun c9 => ?_) (fun c9 => ?_)
        · exact dOk_some (show (TC q) ∧ (cFr [] [(18, 1)] q q) from ⟨hT, (cFr.rf (q := q))⟩)
        · unfold zX2_join_s18_181
          refine dOk_L (fun q_10 eq_10 => ?_)
          have hTq_10 : TC q_10 := by rw [eq_10]; exact st_18_1 hT (show (0 : Int) ≤ (1 : Int) by omega) (show (1 : Int) ≤ (1 : Int) by omega)
          have hFq_10 : cFr [] [(18, 1)] q q_10 := by rw [eq_10]; exact (cFr.rf (q := q)).f (by decide)
          exact dOk_some (show (TC q_10) ∧ (cFr [] [(18, 1)] q q_10) from ⟨hTq_10, hFq_10⟩)
    · refine dOk_eq (A := Int32.toInt p1) (B := 4) rfl (by decide) (fun c_11z c_11 => ?_) (fun c_12z c_12 => ?_)
      · unfold zX2_join_s18_163
        refine dOk_lt rfl rfl (fun c9 => ?_) (fun c9 => ?_)
        · unfold zX2_join_s18_181
          refine dOk_L (fun q_14 eq_14 => ?_)
          have hTq_14 : TC q_14 := by rw [eq_14]; exact st_18_1 hT (show (0 : Int) ≤ (1 : Int) by omega) (show (1 : Int) ≤ (1 : Int) by omega)
          have hFq_14 : cFr [] [(18, 1)] q q_14 := by rw [eq_14]; exact (cFr.rf (q := q)).f (by decide)
          exact dOk_some (show (TC q_14) ∧ (cFr [] [(18, 1)] q q_14) from ⟨hTq_14, hFq_14⟩)
        · refine dOk_le rfl rfl (fun c9 => ?_) (fun c9 => ?_)
          · exact dOk_some (show (TC q) ∧ (cFr [] [(18, 1)] q q) from ⟨hT, (cFr.rf (q := q))⟩)
          · unfold zX2_join_s18_181
            refine dOk_L (fun q_15 eq_15 => ?_)
            have hTq_15 : TC q_15 := by rw [eq_15]; exact st_18_1 hT (show (0 : Int) ≤ (1 : Int) by omega) (show (1 : Int) ≤ (1 : Int) by omega)
            have hFq_15 : cFr [] [(18, 1)] q q_15 := by rw [eq_15]; exact (cFr.rf (q := q)).f (by decide)
            exact dOk_some (show (TC q_15) ∧ (cFr [] [(18, 1)] q q_15) from ⟨hTq_15, hFq_15⟩)
      · refine dOk_eq (A := Int32.toInt p1) (B := 5) rfl (by decide) (fun c_16z c_16 => ?_) (fun c_17z c_17 => ?_)
        · refine dOk_eq rfl rfl (fun _ c9 => ?_) (fun _ c9 => ?_)
          · refine dOk_L (fun q_19 eq_19 => ?_)
            have hTq_19 : TC q_19 := by rw [eq_19]; exact st_18_1 hT (show (0 : Int) ≤ (1 : Int) by omega) (show (1 : Int) ≤ (1 : Int) by omega)
            have hFq_19 : cFr [] [(18, 1)] q q_19 := by rw [eq_19]; exact (cFr.rf (q := q)).f (by decide)
            unfold zX2_join_s18_163
            refine dOk_lt rfl rfl (fun c9 => ?_) (fun c9 => ?_)
            · unfold zX2_join_s18_181
              refine dOk_L (fun q_20 eq_20 => ?_)
              have hTq_20 : TC q_20 := by rw [eq_20]; exact st_18_1 hTq_19 (show (0 : Int) ≤ (1 : Int) by omega) (show (1 : Int) ≤ (1 : Int) by omega)
              have hFq_20 : cFr [] [(18, 1)] q q_20 := by rw [eq_20]; exact hFq_19.f (by decide)
              exact dOk_some (show (TC q_20) ∧ (cFr [] [(18, 1)] q q_20) from ⟨hTq_20, hFq_20⟩)
            · refine dOk_le rfl rfl (fun c9 => ?_) (fun c9 => ?_)
              · exact dOk_some (show (TC q_19) ∧ (cFr [] [(18, 1)] q q_19) from ⟨hTq_19, hFq_19⟩)
              · unfold zX2_join_s18_181
                refine dOk_L (fun q_21 eq_21 => ?_)
                have hTq_21 : TC q_21 := by rw [eq_21]; exact st_18_1 hTq_19 (show (0 : Int) ≤ (1 : Int) by omega) (show (1 : Int) ≤ (1 : Int) by omega)
                have hFq_21 : cFr [] [(18, 1)] q q_21 := by rw [eq_21]; exact hFq_19.f (by decide)
                exact dOk_some (show (TC q_21) ∧ (cFr [] [(18, 1)] q q_21) from ⟨hTq_21, hFq_21⟩)
          · refine dOk_eq (A := Int32.toInt p1) (B := 5) rfl (by decide) (fun c_22z c_22 => ?_) (fun c_23z c_23 => ?_)
            · refine dOk_G (dnl_ok (by (first | decide | (intro z9; exact c9 (by rw [z9]; decide))))) ?_
              unfold zX2_join_s18_161
              unfold zX2_join_s18_163
              refine dOk_lt rfl rfl (fun c9 => ?_) (fun c9 => ?_)
              · unfold zX2_join_s18_181
                refine dOk_L (fun q_25 eq_25 => ?_)
                have hTq_25 : TC q_25 := by rw [eq_25]; exact st_18_1 hT (show (0 : Int) ≤ (1 : Int) by omega) (show (1 : Int) ≤ (1 : Int) by omega)
                have hFq_25 : cFr [] [(18, 1)] q q_25 := by rw [eq_25]; exact (cFr.rf (q := q)).f (by decide)
                exact dOk_some (show (TC q_25) ∧ (cFr [] [(18, 1)] q q_25) from ⟨hTq_25, hFq_25⟩)
              · refine dOk_le rfl rfl (fun c9 => ?_) (fun c9 => ?_)
                · exact dOk_some (show (TC q) ∧ (cFr [] [(18, 1)] q q) from ⟨hT, (cFr.rf (q := q))⟩)
                · unfold zX2_join_s18_181
                  refine dOk_L (fun q_26 eq_26 => ?_)
                  have hTq_26 : TC q_26 := by rw [eq_26]; exact st_18_1 hT (show (0 : Int) ≤ (1 : Int) by omega) (show (1 : Int) ≤ (1 : Int) by omega)
                  have hFq_26 : cFr [] [(18, 1)] q q_26 := by rw [eq_26]; exact (cFr.rf (q := q)).f (by decide)
                  exact dOk_some (show (TC q_26) ∧ (cFr [] [(18, 1)] q q_26) from ⟨hTq_26, hFq_26⟩)
            · refine dOk_G (dnl_ok (by (first | decide | (intro z9; exact c9 (by rw [z9]; decide))))) ?_
              unfold zX2_join_s18_161
              unfold zX2_join_s18_163
              refine dOk_lt rfl rfl (fun c9 => ?_) (fun c9 => ?_)
              · unfold zX2_join_s18_181
                refine dOk_L (fun q_27 eq_27 => ?_)
                have hTq_27 : TC q_27 := by rw [eq_27]; exact st_18_1 hT (show (0 : Int) ≤ (1 : Int) by omega) (show (1 : Int) ≤ (1 : Int) by omega)
                have hFq_27 : cFr [] [(18, 1)] q q_27 := by rw [eq_27]; exact (cFr.rf (q := q)).f (by decide)
                exact dOk_some (show (TC q_27) ∧ (cFr [] [(18, 1)] q q_27) from ⟨hTq_27, hFq_27⟩)
              · refine dOk_le rfl rfl (fun c9 => ?_) (fun c9 => ?_)
                · exact dOk_some (show (TC q) ∧ (cFr [] [(18, 1)] q q) from ⟨hT, (cFr.rf (q := q))⟩)
                · unfold zX2_join_s18_181
                  refine dOk_L (fun q_28 eq_28 => ?_)
                  have hTq_28 : TC q_28 := by rw [eq_28]; exact st_18_1 hT (show (0 : Int) ≤ (1 : Int) by omega) (show (1 : Int) ≤ (1 : Int) by omega)
                  have hFq_28 : cFr [] [(18, 1)] q q_28 := by rw [eq_28]; exact (cFr.rf (q := q)).f (by decide)
                  exact dOk_some (show (TC q_28) ∧ (cFr [] [(18, 1)] q q_28) from ⟨hTq_28, hFq_28⟩)
        · refine dOk_eq (A := Int32.toInt p1) (B := 6) rfl (by decide) (fun c_29z c_29 => ?_) (fun c_30z c_30 => ?_)
          · refine dOk_eq rfl rfl (fun _ c9 => ?_) (fun _ c9 => ?_)
            · refine dOk_L (fun q_32 eq_32 => ?_)
              have hTq_32 : TC q_32 := by rw [eq_32]; exact st_18_1 hT (show (0 : Int) ≤ (1 : Int) by omega) (show (1 : Int) ≤ (1 : Int) by omega)
              have hFq_32 : cFr [] [(18, 1)] q q_32 := by rw [eq_32]; exact (cFr.rf (q := q)).f (by decide)
              unfold zX2_join_s18_163
              refine dOk_lt rfl rfl (fun c9 => ?_) (fun c9 => ?_)
              · unfold zX2_join_s18_181
                refine dOk_L (fun q_33 eq_33 => ?_)
                have hTq_33 : TC q_33 := by rw [eq_33]; exact st_18_1 hTq_32 (show (0 : Int) ≤ (1 : Int) by omega) (show (1 : Int) ≤ (1 : Int) by omega)
                have hFq_33 : cFr [] [(18, 1)] q q_33 := by rw [eq_33]; exact hFq_32.f (by decide)
                exact dOk_some (show (TC q_33) ∧ (cFr [] [(18, 1)] q q_33) from ⟨hTq_33, hFq_33⟩)
              · refine dOk_le rfl rfl (fun c9 => ?_) (fun c9 => ?_)
                · exact dOk_some (show (TC q_32) ∧ (cFr [] [(18, 1)] q q_32) from ⟨hTq_32, hFq_32⟩)
                · unfold zX2_join_s18_181
                  refine dOk_L (fun q_34 eq_34 => ?_)
                  have hTq_34 : TC q_34 := by rw [eq_34]; exact st_18_1 hTq_32 (show (0 : Int) ≤ (1 : Int) by omega) (show (1 : Int) ≤ (1 : Int) by omega)
                  have hFq_34 : cFr [] [(18, 1)] q q_34 := by rw [eq_34]; exact hFq_32.f (by decide)
                  exact dOk_some (show (TC q_34) ∧ (cFr [] [(18, 1)] q q_34) from ⟨hTq_34, hFq_34⟩)
            · refine dOk_eq (A := Int32.toInt p1) (B := 5) rfl (by decide) (fun c_35z c_35 => ?_) (fun c_36z c_36 => ?_)
              · refine dOk_G (dnl_ok (by (first | decide | (intro z9; exact c9 (by rw [z9]; decide))))) ?_
                unfold zX2_join_s18_161
                unfold zX2_join_s18_163
                refine dOk_lt rfl rfl (fun c9 => ?_) (fun c9 => ?_)
                · unfold zX2_join_s18_181
                  refine dOk_L (fun q_38 eq_38 => ?_)
                  have hTq_38 : TC q_38 := by rw [eq_38]; exact st_18_1 hT (show (0 : Int) ≤ (1 : Int) by omega) (show (1 : Int) ≤ (1 : Int) by omega)
                  have hFq_38 : cFr [] [(18, 1)] q q_38 := by rw [eq_38]; exact (cFr.rf (q := q)).f (by decide)
                  exact dOk_some (show (TC q_38) ∧ (cFr [] [(18, 1)] q q_38) from ⟨hTq_38, hFq_38⟩)
                · refine dOk_le rfl rfl (fun c9 => ?_) (fun c9 => ?_)
                  · exact dOk_some (show (TC q) ∧ (cFr [] [(18, 1)] q q) from ⟨hT, (cFr.rf (q := q))⟩)
                  · unfold zX2_join_s18_181
                    refine dOk_L (fun q_39 eq_39 => ?_)
                    have hTq_39 : TC q_39 := by rw [eq_39]; exact st_18_1 hT (show (0 : Int) ≤ (1 : Int) by omega) (show (1 : Int) ≤ (1 : Int) by omega)
                    have hFq_39 : cFr [] [(18, 1)] q q_39 := by rw [eq_39]; exact (cFr.rf (q := q)).f (by decide)
                    exact dOk_some (show (TC q_39) ∧ (cFr [] [(18, 1)] q q_39) from ⟨hTq_39, hFq_39⟩)
              · refine dOk_G (dnl_ok (by (first | decide | (intro z9; exact c9 (by rw [z9]; decide))))) ?_
                unfold zX2_join_s18_161
                unfold zX2_join_s18_163
                refine dOk_lt rfl rfl (fun c9 => ?_) (fun c9 => ?_)
                · unfold zX2_join_s18_181
                  refine dOk_L (fun q_40 eq_40 => ?_)
                  have hTq_40 : TC q_40 := by rw [eq_40]; exact st_18_1 hT (show (0 : Int) ≤ (1 : Int) by omega) (show (1 : Int) ≤ (1 : Int) by omega)
                  have hFq_40 : cFr [] [(18, 1)] q q_40 := by rw [eq_40]; exact (cFr.rf (q := q)).f (by decide)
                  exact dOk_some (show (TC q_40) ∧ (cFr [] [(18, 1)] q q_40) from ⟨hTq_40, hFq_40⟩)
                · refine dOk_le rfl rfl (fun c9 => ?_) (fun c9 => ?_)
                  · exact dOk_some (show (TC q) ∧ (cFr [] [(18, 1)] q q) from ⟨hT, (cFr.rf (q := q))⟩)
                  · unfold zX2_join_s18_181
                    refine dOk_L (fun q_41 eq_41 => ?_)
                    have hTq_41 : TC q_41 := by rw [eq_41]; exact st_18_1 hT (show (0 : Int) ≤ (1 : Int) by omega) (show (1 : Int) ≤ (1 : Int) by omega)
                    have hFq_41 : cFr [] [(18, 1)] q q_41 := by rw [eq_41]; exact (cFr.rf (q := q)).f (by decide)
                    exact dOk_some (show (TC q_41) ∧ (cFr [] [(18, 1)] q q_41) from ⟨hTq_41, hFq_41⟩)
          · refine dOk_eq (A := Int32.toInt p1) (B := 7) rfl (by decide) (fun c_42z c_42 => ?_) (fun c_43z c_43 => ?_)
            · refine dOk_le rfl rfl (fun c9 => ?_) (fun c9 => ?_)
              · unfold zX2_join_s18_91
                unfold zX2_join_s18_163
                refine dOk_lt rfl rfl (fun c9 => ?_) (fun c9 => ?_)
                · unfold zX2_join_s18_181
                  refine dOk_L (fun q_45 eq_45 => ?_)
                  have hTq_45 : TC q_45 := by rw [eq_45]; exact st_18_1 hT (show (0 : Int) ≤ (1 : Int) by omega) (show (1 : Int) ≤ (1 : Int) by omega)
                  have hFq_45 : cFr [] [(18, 1)] q q_45 := by rw [eq_45]; exact (cFr.rf (q := q)).f (by decide)
                  exact dOk_some (show (TC q_45) ∧ (cFr [] [(18, 1)] q q_45) from ⟨hTq_45, hFq_45⟩)
                · refine dOk_le rfl rfl (fun c9 => ?_) (fun c9 => ?_)
                  · exact dOk_some (show (TC q) ∧ (cFr [] [(18, 1)] q q) from ⟨hT, (cFr.rf (q := q))⟩)
                  · unfold zX2_join_s18_181
                    refine dOk_L (fun q_46 eq_46 => ?_)
                    have hTq_46 : TC q_46 := by rw [eq_46]; exact st_18_1 hT (show (0 : Int) ≤ (1 : Int) by omega) (show (1 : Int) ≤ (1 : Int) by omega)
                    have hFq_46 : cFr [] [(18, 1)] q q_46 := by rw [eq_46]; exact (cFr.rf (q := q)).f (by decide)
                    exact dOk_some (show (TC q_46) ∧ (cFr [] [(18, 1)] q q_46) from ⟨hTq_46, hFq_46⟩)
              · unfold zX2_join_s18_91
                unfold zX2_join_s18_163
                refine dOk_lt rfl rfl (fun c9 => ?_) (fun c9 => ?_)
                · unfold zX2_join_s18_181
                  refine dOk_L (fun q_47 eq_47 => ?_)
                  have hTq_47 : TC q_47 := by rw [eq_47]; exact st_18_1 hT (show (0 : Int) ≤ (1 : Int) by omega) (show (1 : Int) ≤ (1 : Int) by omega)
                  have hFq_47 : cFr [] [(18, 1)] q q_47 := by rw [eq_47]; exact (cFr.rf (q := q)).f (by decide)
                  exact dOk_some (show (TC q_47) ∧ (cFr [] [(18, 1)] q q_47) from ⟨hTq_47, hFq_47⟩)
                · refine dOk_le rfl rfl (fun c9 => ?_) (fun c9 => ?_)
                  · exact dOk_some (show (TC q) ∧ (cFr [] [(18, 1)] q q) from ⟨hT, (cFr.rf (q := q))⟩)
                  · unfold zX2_join_s18_181
                    refine dOk_L (fun q_48 eq_48 => ?_)
                    have hTq_48 : TC q_48 := by rw [eq_48]; exact st_18_1 hT (show (0 : Int) ≤ (1 : Int) by omega) (show (1 : Int) ≤ (1 : Int) by omega)
                    have hFq_48 : cFr [] [(18, 1)] q q_48 := by rw [eq_48]; exact (cFr.rf (q := q)).f (by decide)
                    exact dOk_some (show (TC q_48) ∧ (cFr [] [(18, 1)] q q_48) from ⟨hTq_48, hFq_48⟩)
            · refine dOk_eq (A := Int32.toInt p1) (B := 8) rfl (by decide) (fun c_49z c_49 => ?_) (fun c_50z c_50 => ?_)
              · refine dOk_le rfl rfl (fun c9 => ?_) (fun c9 => ?_)
                · unfold zX2_join_s18_108
                  unfold zX2_join_s18_163
                  refine dOk_lt rfl rfl (fun c9 => ?_) (fun c9 => ?_)
                  · unfold zX2_join_s18_181
                    refine dOk_L (fun q_52 eq_52 => ?_)
                    have hTq_52 : TC q_52 := by rw [eq_52]; exact st_18_1 hT (show (0 : Int) ≤ (1 : Int) by omega) (show (1 : Int) ≤ (1 : Int) by omega)
                    have hFq_52 : cFr [] [(18, 1)] q q_52 := by rw [eq_52]; exact (cFr.rf (q := q)).f (by decide)
                    exact dOk_some (show (TC q_52) ∧ (cFr [] [(18, 1)] q q_52) from ⟨hTq_52, hFq_52⟩)
                  · refine dOk_le rfl rfl (fun c9 => ?_) (fun c9 => ?_)
                    · exact dOk_some (show (TC q) ∧ (cFr [] [(18, 1)] q q) from ⟨hT, (cFr.rf (q := q))⟩)
                    · unfold zX2_join_s18_181
                      refine dOk_L (fun q_53 eq_53 => ?_)
                      have hTq_53 : TC q_53 := by rw [eq_53]; exact st_18_1 hT (show (0 : Int) ≤ (1 : Int) by omega) (show (1 : Int) ≤ (1 : Int) by omega)
                      have hFq_53 : cFr [] [(18, 1)] q q_53 := by rw [eq_53]; exact (cFr.rf (q := q)).f (by decide)
                      exact dOk_some (show (TC q_53) ∧ (cFr [] [(18, 1)] q q_53) from ⟨hTq_53, hFq_53⟩)
                · unfold zX2_join_s18_108
                  unfold zX2_join_s18_163
                  refine dOk_lt rfl rfl (fun c9 => ?_) (fun c9 => ?_)
                  · unfold zX2_join_s18_181
                    refine dOk_L (fun q_54 eq_54 => ?_)
                    have hTq_54 : TC q_54 := by rw [eq_54]; exact st_18_1 hT (show (0 : Int) ≤ (1 : Int) by omega) (show (1 : Int) ≤ (1 : Int) by omega)
                    have hFq_54 : cFr [] [(18, 1)] q q_54 := by rw [eq_54]; exact (cFr.rf (q := q)).f (by decide)
                    exact dOk_some (show (TC q_54) ∧ (cFr [] [(18, 1)] q q_54) from ⟨hTq_54, hFq_54⟩)
                  · refine dOk_le rfl rfl (fun c9 => ?_) (fun c9 => ?_)
                    · exact dOk_some (show (TC q) ∧ (cFr [] [(18, 1)] q q) from ⟨hT, (cFr.rf (q := q))⟩)
                    · unfold zX2_join_s18_181
                      refine dOk_L (fun q_55 eq_55 => ?_)
                      have hTq_55 : TC q_55 := by rw [eq_55]; exact st_18_1 hT (show (0 : Int) ≤ (1 : Int) by omega) (show (1 : Int) ≤ (1 : Int) by omega)
                      have hFq_55 : cFr [] [(18, 1)] q q_55 := by rw [eq_55]; exact (cFr.rf (q := q)).f (by decide)
                      exact dOk_some (show (TC q_55) ∧ (cFr [] [(18, 1)] q q_55) from ⟨hTq_55, hFq_55⟩)
              · refine dOk_eq (A := Int32.toInt p1) (B := 9) rfl (by decide) (fun c_56z c_56 => ?_) (fun c_57z c_57 => ?_)
                · refine dOk_eq rfl rfl (fun _ c9 => ?_) (fun _ c9 => ?_)
                  · unfold zX2_join_s18_125
                    unfold zX2_join_s18_163
                    refine dOk_lt rfl rfl (fun c9 => ?_) (fun c9 => ?_)
                    · unfold zX2_join_s18_181
                      refine dOk_L (fun q_59 eq_59 => ?_)
                      have hTq_59 : TC q_59 := by rw [eq_59]; exact st_18_1 hT (show (0 : Int) ≤ (1 : Int) by omega) (show (1 : Int) ≤ (1 : Int) by omega)
                      have hFq_59 : cFr [] [(18, 1)] q q_59 := by rw [eq_59]; exact (cFr.rf (q := q)).f (by decide)
                      exact dOk_some (show (TC q_59) ∧ (cFr [] [(18, 1)] q q_59) from ⟨hTq_59, hFq_59⟩)
                    · refine dOk_le rfl rfl (fun c9 => ?_) (fun c9 => ?_)
                      · exact dOk_some (show (TC q) ∧ (cFr [] [(18, 1)] q q) from ⟨hT, (cFr.rf (q := q))⟩)
                      · unfold zX2_join_s18_181
                        refine dOk_L (fun q_60 eq_60 => ?_)
                        have hTq_60 : TC q_60 := by rw [eq_60]; exact st_18_1 hT (show (0 : Int) ≤ (1 : Int) by omega) (show (1 : Int) ≤ (1 : Int) by omega)
                        have hFq_60 : cFr [] [(18, 1)] q q_60 := by rw [eq_60]; exact (cFr.rf (q := q)).f (by decide)
                        exact dOk_some (show (TC q_60) ∧ (cFr [] [(18, 1)] q q_60) from ⟨hTq_60, hFq_60⟩)
                  · unfold zX2_join_s18_125
                    unfold zX2_join_s18_163
                    refine dOk_lt rfl rfl (fun c9 => ?_) (fun c9 => ?_)
                    · unfold zX2_join_s18_181
                      refine dOk_L (fun q_61 eq_61 => ?_)
                      have hTq_61 : TC q_61 := by rw [eq_61]; exact st_18_1 hT (show (0 : Int) ≤ (1 : Int) by omega) (show (1 : Int) ≤ (1 : Int) by omega)
                      have hFq_61 : cFr [] [(18, 1)] q q_61 := by rw [eq_61]; exact (cFr.rf (q := q)).f (by decide)
                      exact dOk_some (show (TC q_61) ∧ (cFr [] [(18, 1)] q q_61) from ⟨hTq_61, hFq_61⟩)
                    · refine dOk_le rfl rfl (fun c9 => ?_) (fun c9 => ?_)
                      · exact dOk_some (show (TC q) ∧ (cFr [] [(18, 1)] q q) from ⟨hT, (cFr.rf (q := q))⟩)
                      · unfold zX2_join_s18_181
                        refine dOk_L (fun q_62 eq_62 => ?_)
                        have hTq_62 : TC q_62 := by rw [eq_62]; exact st_18_1 hT (show (0 : Int) ≤ (1 : Int) by omega) (show (1 : Int) ≤ (1 : Int) by omega)
                        have hFq_62 : cFr [] [(18, 1)] q q_62 := by rw [eq_62]; exact (cFr.rf (q := q)).f (by decide)
                        exact dOk_some (show (TC q_62) ∧ (cFr [] [(18, 1)] q q_62) from ⟨hTq_62, hFq_62⟩)
                · refine dOk_eq rfl rfl (fun _ c9 => ?_) (fun _ c9 => ?_)
                  · refine dOk_L (fun q_63 eq_63 => ?_)
                    have hTq_63 : TC q_63 := by rw [eq_63]; exact st_18_1 hT (show (0 : Int) ≤ (1 : Int) by omega) (show (1 : Int) ≤ (1 : Int) by omega)
                    have hFq_63 : cFr [] [(18, 1)] q q_63 := by rw [eq_63]; exact (cFr.rf (q := q)).f (by decide)
                    unfold zX2_join_s18_163
                    refine dOk_lt rfl rfl (fun c9 => ?_) (fun c9 => ?_)
                    · unfold zX2_join_s18_181
                      refine dOk_L (fun q_64 eq_64 => ?_)
                      have hTq_64 : TC q_64 := by rw [eq_64]; exact st_18_1 hTq_63 (show (0 : Int) ≤ (1 : Int) by omega) (show (1 : Int) ≤ (1 : Int) by omega)
                      have hFq_64 : cFr [] [(18, 1)] q q_64 := by rw [eq_64]; exact hFq_63.f (by decide)
                      exact dOk_some (show (TC q_64) ∧ (cFr [] [(18, 1)] q q_64) from ⟨hTq_64, hFq_64⟩)
                    · refine dOk_le rfl rfl (fun c9 => ?_) (fun c9 => ?_)
                      · exact dOk_some (show (TC q_63) ∧ (cFr [] [(18, 1)] q q_63) from ⟨hTq_63, hFq_63⟩)
                      · unfold zX2_join_s18_181
                        refine dOk_L (fun q_65 eq_65 => ?_)
                        have hTq_65 : TC q_65 := by rw [eq_65]; exact st_18_1 hTq_63 (show (0 : Int) ≤ (1 : Int) by omega) (show (1 : Int) ≤ (1 : Int) by omega)
                        have hFq_65 : cFr [] [(18, 1)] q q_65 := by rw [eq_65]; exact hFq_63.f (by decide)
                        exact dOk_some (show (TC q_65) ∧ (cFr [] [(18, 1)] q q_65) from ⟨hTq_65, hFq_65⟩)
                  · refine dOk_eq (A := Int32.toInt p1) (B := 5) rfl (by decide) (fun c_66z c_66 => ?_) (fun c_67z c_67 => ?_)
                    · refine dOk_G (dnl_ok (by (first | decide | (intro z9; exact c9 (by rw [z9]; decide))))) ?_
                      unfold zX2_join_s18_161
                      unfold zX2_join_s18_163
                      refine dOk_lt rfl rfl (fun c9 => ?_) (fun c9 => ?_)
                      · unfold zX2_join_s18_181
                        refine dOk_L (fun q_69 eq_69 => ?_)
                        have hTq_69 : TC q_69 := by rw [eq_69]; exact st_18_1 hT (show (0 : Int) ≤ (1 : Int) by omega) (show (1 : Int) ≤ (1 : Int) by omega)
                        have hFq_69 : cFr [] [(18, 1)] q q_69 := by rw [eq_69]; exact (cFr.rf (q := q)).f (by decide)
                        exact dOk_some (show (TC q_69) ∧ (cFr [] [(18, 1)] q q_69) from ⟨hTq_69, hFq_69⟩)
                      · refine dOk_le rfl rfl (fun c9 => ?_) (fun c9 => ?_)
                        · exact dOk_some (show (TC q) ∧ (cFr [] [(18, 1)] q q) from ⟨hT, (cFr.rf (q := q))⟩)
                        · unfold zX2_join_s18_181
                          refine dOk_L (fun q_70 eq_70 => ?_)
                          have hTq_70 : TC q_70 := by rw [eq_70]; exact st_18_1 hT (show (0 : Int) ≤ (1 : Int) by omega) (show (1 : Int) ≤ (1 : Int) by omega)
                          have hFq_70 : cFr [] [(18, 1)] q q_70 := by rw [eq_70]; exact (cFr.rf (q := q)).f (by decide)
                          exact dOk_some (show (TC q_70) ∧ (cFr [] [(18, 1)] q q_70) from ⟨hTq_70, hFq_70⟩)
                    · refine dOk_G (dnl_ok (by (first | decide | (intro z9; exact c9 (by rw [z9]; decide))))) ?_
                      unfold zX2_join_s18_161
                      unfold zX2_join_s18_163
                      refine dOk_lt rfl rfl (fun c9 => ?_) (fun c9 => ?_)
                      · unfold zX2_join_s18_181
                        refine dOk_L (fun q_71 eq_71 => ?_)
                        have hTq_71 : TC q_71 := by rw [eq_71]; exact st_18_1 hT (show (0 : Int) ≤ (1 : Int) by omega) (show (1 : Int) ≤ (1 : Int) by omega)
                        have hFq_71 : cFr [] [(18, 1)] q q_71 := by rw [eq_71]; exact (cFr.rf (q := q)).f (by decide)
                        exact dOk_some (show (TC q_71) ∧ (cFr [] [(18, 1)] q q_71) from ⟨hTq_71, hFq_71⟩)
                      · refine dOk_le rfl rfl (fun c9 => ?_) (fun c9 => ?_)
                        · exact dOk_some (show (TC q) ∧ (cFr [] [(18, 1)] q q) from ⟨hT, (cFr.rf (q := q))⟩)
                        · unfold zX2_join_s18_181
                          refine dOk_L (fun q_72 eq_72 => ?_)
                          have hTq_72 : TC q_72 := by rw [eq_72]; exact st_18_1 hT (show (0 : Int) ≤ (1 : Int) by omega) (show (1 : Int) ≤ (1 : Int) by omega)
                          have hFq_72 : cFr [] [(18, 1)] q q_72 := by rw [eq_72]; exact (cFr.rf (q := q)).f (by decide)
                          exact dOk_some (show (TC q_72) ∧ (cFr [] [(18, 1)] q q_72) from ⟨hTq_72, hFq_72⟩)
end
section
set_option maxHeartbeats 4000000 in
set_option maxRecDepth 100000 in
theorem ok_X2_valueOf_s18_l_s21 (q : dK) (p1 : Int32) (p2 : Int32) (p3 : Int32) (hT : TC q) (hp0 : ¬ Int32.toInt p1 = 0) (hp1 : 0 ≤ Int32.toInt p1) (hp2 : Int32.toInt p1 ≤ (q.2.2.length : Int)) (hp3 : 0 ≤ Int32.toInt p2) : dOk (zX2_valueOf_s18_l_s21 q p1 p2 p3) (fun (o : Int32 × dK) => (TC o.2) ∧ (cFr [19] [(18, 1)] q o.2)) := by
  unfold zX2_valueOf_s18_l_s21
  simp only [txC_r, txL_r, txN_r, txK_r, txR_r]
  refine dOk_L (fun q_1 eq_1 => ?_)
  have hTq_1 : TC q_1 := by rw [eq_1]; exact st_18_1 hT (show (0 : Int) ≤ (0 : Int) by omega) (show (0 : Int) ≤ (1 : Int) by omega)
  have hFq_1 : cFr [19] [(18, 1)] q q_1 := by rw [eq_1]; exact (cFr.rf (q := q)).f (by decide)
  refine dOk_L (fun q_2 eq_2 => ?_)
  have hTq_2 : TC q_2 := by rw [eq_2]; exact sa_19 hTq_1
  have hFq_2 : cFr [19] [(18, 1)] q q_2 := by rw [eq_2]; exact hFq_1.i (by decide)
  have n_3 : q_1.2.2.length = q.2.2.length := (by rw [eq_1]; rfl)
  have n_4 : q_2.2.2.length = q_1.2.2.length := (by rw [eq_2]; rfl)
  have g_5 : dlg q_2 p1 = true := tc_dlg hTq_2 (show ¬ Int32.toInt p1 = 0 by omega) (show 0 ≤ Int32.toInt p1 by omega) (show Int32.toInt p1 ≤ (q_2.2.2.length : Int) by omega)
  refine dOk_G g_5 ?_
  refine dOk_G g_5 ?_
  unfold zX2_valueOf_s18_l_s21_32
  refine dFix_ok (fun (a : dK × Int32 × Int32 × Int32 × Int32 × Int32) => (TC a.1) ∧ (cFr [19] [(18, 1)] q_2 a.1) ∧ (a.2.1 = p1) ∧ (0 ≤ Int32.toInt a.2.2.1) ∧ (Int32.toInt a.2.2.1 ≤ 64) ∧ (0 ≤ Int32.toInt a.2.2.2.1) ∧ (0 ≤ Int32.toInt a.2.2.2.2.2) ∧ (Int32.toInt a.2.2.2.2.1 ≤ 400) ∧ (Int32.toInt a.2.2.2.2.1 ≤ Int32.toInt (txL a.1 a.2.1))) (fun (a : dK × Int32 × Int32 × Int32 × Int32 × Int32) => (Int32.toInt a.2.2.2.2.1 - Int32.toInt a.2.2.2.2.2).toNat) ?_ _ ?_ _ (dF_gt ?_)
  · intro a ha k_7 hk_6
    obtain ⟨q_8, x1_9, x5_10, x6_11, x7_12, x8_13⟩ := a
    replace ha : (TC q_8) ∧ (cFr [19] [(18, 1)] q_2 q_8) ∧ (x1_9 = p1) ∧ (0 ≤ Int32.toInt x5_10) ∧ (Int32.toInt x5_10 ≤ 64) ∧ (0 ≤ Int32.toInt x6_11) ∧ (0 ≤ Int32.toInt x8_13) ∧ (Int32.toInt x7_12 ≤ 400) ∧ (Int32.toInt x7_12 ≤ Int32.toInt (txL q_8 x1_9)) := ha
    obtain ⟨a_14, a_15, a_16, a_17, a_18, a_19, a_20, a_21, a_22⟩ := ha
    show dOk (zX2_valueOf_s18_l_s21_32b  (fun q x1 x5 x6 x7 x8 => k_7 (q, x1, x5, x6, x7, x8)) q_8 x1_9 x5_10 x6_11 x7_12 x8_13) _
    unfold zX2_valueOf_s18_l_s21_32b
    simp only [txC_r, txL_r, txN_r, txK_r, txR_r]
    have hFq_8 : cFr [19] [(18, 1)] q q_8 := hFq_2.t a_15 (by decide) (by decide)
    subst x1_9
    have f_23 : 0 ≤ Int32.toInt (txL q_2 p1) ∧ Int32.toInt (txL q_2 p1) ≤ 400 := tx_L hTq_2 g_5
    have w_24 : Int32.toInt (txL q_1 p1) = Int32.toInt (txL q p1) := tx_eqL (by rw [eq_1]; rfl)
    have w_25 : Int32.toInt (txL q_2 p1) = Int32.toInt (txL q_1 p1) := tx_eqL (by rw [eq_2]; rfl)
    have w_26 : Int32.toInt (txL q_8 p1) = Int32.toInt (txL q_2 p1) := tx_eqL a_15.2
    have hn_32 : ∀ (q_27 : dK) (x5_28 : Int32) (x6_29 : Int32) (x7_30 : Int32) (x8_31 : Int32), TC q_27 → cFr [19] [(18, 1)] q_2 q_27 → (0 ≤ Int32.toInt x5_28) → (Int32.toInt x5_28 ≤ 64) → (0 ≤ Int32.toInt x6_29) → (0 ≤ Int32.toInt x8_31) → (Int32.toInt x8_31 < Int32.toInt x7_30) → (Int32.toInt x7_30 ≤ 400) → (Int32.toInt x7_30 ≤ Int32.toInt (txL q_27 p1)) → (Int32.toInt x8_31 = Int32.toInt x8_13) → (Int32.toInt x7_30 = Int32.toInt x7_12) → dOk (zX2_valueOf_s18_l_s21_322 (fun q x1 x5 x6 x7 x8 => k_7 (q, x1, x5, x6, x7, x8)) q_27 p1 x5_28 x6_29 x7_30 x8_31 ) (fun (o : Int32 × dK) => (TC o.2) ∧ (cFr [19] [(18, 1)] q o.2)) := by
      intro q_27 x5_28 x6_29 x7_30 x8_31 hT_42 hF_43 b_33 b_34 b_35 b_36 b_37 b_38 b_39 b_40 b_41
      unfold zX2_valueOf_s18_l_s21_322
      have hFq_27 : cFr [19] [(18, 1)] q q_27 := hFq_2.t hF_43 (by decide) (by decide)
      obtain ⟨y_44, hy_44⟩ : ∃ y : Int32, x8_31 + 1 = y := ⟨_, rfl⟩
      have t_45 : Int32.toInt y_44 = Int32.toInt x8_31 + 1 := by rw [← hy_44]; exact ti_add rfl (by decide) (by omega) (by omega)
      rw [hy_44]
      clear hy_44
      have w_46 : Int32.toInt (txL q_27 p1) = Int32.toInt (txL q_2 p1) := tx_eqL hF_43.2
      exact hk_6 (q_27, p1, x5_28, x6_29, x7_30, y_44) (show (TC q_27) ∧ (cFr [19] [(18, 1)] q_2 q_27) ∧ (p1 = p1) ∧ (0 ≤ Int32.toInt x5_28) ∧ (Int32.toInt x5_28 ≤ 64) ∧ (0 ≤ Int32.toInt x6_29) ∧ (0 ≤ Int32.toInt y_44) ∧ (Int32.toInt x7_30 ≤ 400) ∧ (Int32.toInt x7_30 ≤ Int32.toInt (txL q_27 p1)) from ⟨hT_42, ((cFr.rf : cFr [19] [(18, 1)] q_2 q_2).t hF_43 (by decide) (by decide)), rfl, by omega, by omega, by omega, by omega, by omega, by omega⟩) (show (Int32.toInt x7_30 - Int32.toInt y_44).toNat < (Int32.toInt x7_12 - Int32.toInt x8_13).toNat by omega)
    have hn_52 : ∀ (q_47 : dK) (x6_48 : Int32) (x7_49 : Int32) (x8_50 : Int32) (y0_51 : Int32), TC q_47 → cFr [19] [(18, 1)] q_2 q_47 → (0 ≤ Int32.toInt y0_51) → (Int32.toInt y0_51 ≤ 64) → (0 ≤ Int32.toInt x6_48) → (0 ≤ Int32.toInt x8_50) → (Int32.toInt x8_50 < Int32.toInt x7_49) → (Int32.toInt x7_49 ≤ 400) → (Int32.toInt x7_49 ≤ Int32.toInt (txL q_47 p1)) → (Int32.toInt x8_50 = Int32.toInt x8_13) → (Int32.toInt x7_49 = Int32.toInt x7_12) → dOk (zX2_valueOf_s18_l_s21_281 (fun q x1 x5 x6 x7 x8 => k_7 (q, x1, x5, x6, x7, x8)) q_47 p1 x6_48 x7_49 x8_50 y0_51 ) (fun (o : Int32 × dK) => (TC o.2) ∧ (cFr [19] [(18, 1)] q o.2)) := by
      intro q_47 x6_48 x7_49 x8_50 y0_51 hT_62 hF_63 b_53 b_54 b_55 b_56 b_57 b_58 b_59 b_60 b_61
      unfold zX2_valueOf_s18_l_s21_281
      have hFq_47 : cFr [19] [(18, 1)] q q_47 := hFq_2.t hF_63 (by decide) (by decide)
      have w_64 : Int32.toInt (txL q_47 p1) = Int32.toInt (txL q_2 p1) := tx_eqL hF_63.2
      exact hn_32 q_47 y0_51 x6_48 x7_49 x8_50 hT_62 ((cFr.rf : cFr [19] [(18, 1)] q_2 q_2).t hF_63 (by decide) (by decide)) (show 0 ≤ Int32.toInt y0_51 by omega) (show Int32.toInt y0_51 ≤ 64 by omega) (show 0 ≤ Int32.toInt x6_48 by omega) (show 0 ≤ Int32.toInt x8_50 by omega) (show Int32.toInt x8_50 < Int32.toInt x7_49 by omega) (show Int32.toInt x7_49 ≤ 400 by omega) (show Int32.toInt x7_49 ≤ Int32.toInt (txL q_47 p1) by omega) (show Int32.toInt x8_50 = Int32.toInt x8_13 by omega) (show Int32.toInt x7_49 = Int32.toInt x7_12 by omega)
    have hn_71 : ∀ (q_65 : dK) (x5_66 : Int32) (x7_67 : Int32) (x8_68 : Int32) (x12_69 : Int32) (y0_70 : Int32), TC q_65 → cFr [19] [(18, 1)] q_2 q_65 → (1 ≤ Int32.toInt x5_66) → (Int32.toInt x5_66 ≤ 63) → (0 ≤ Int32.toInt y0_70) → (0 ≤ Int32.toInt x8_68) → (Int32.toInt x8_68 < Int32.toInt x7_67) → (Int32.toInt x7_67 ≤ 400) → (Int32.toInt x7_67 ≤ Int32.toInt (txL q_65 p1)) → (Int32.toInt x8_68 = Int32.toInt x8_13) → (Int32.toInt x7_67 = Int32.toInt x7_12) → dOk (zX2_valueOf_s18_l_s21_265 (fun q x1 x5 x6 x7 x8 => k_7 (q, x1, x5, x6, x7, x8)) q_65 p1 x5_66 x7_67 x8_68 x12_69 y0_70 ) (fun (o : Int32 × dK) => (TC o.2) ∧ (cFr [19] [(18, 1)] q o.2)) := by
      intro q_65 x5_66 x7_67 x8_68 x12_69 y0_70 hT_81 hF_82 b_72 b_73 b_74 b_75 b_76 b_77 b_78 b_79 b_80
      unfold zX2_valueOf_s18_l_s21_265
      have hFq_65 : cFr [19] [(18, 1)] q q_65 := hFq_2.t hF_82 (by decide) (by decide)
      refine dOk_eq (A := Int32.toInt x12_69) (B := 0) rfl (by decide) (fun c_83z c_83 => ?_) (fun c_84z c_84 => ?_)
      · obtain ⟨y_86, hy_86⟩ : ∃ y : Int32, (x5_66 - 1 : Int32) = y := ⟨_, rfl⟩
        have t_87 : Int32.toInt y_86 = Int32.toInt x5_66 - 1 := by rw [← hy_86]; exact ti_sub rfl (by decide) (by omega) (by omega)
        try rw [hy_86]
        clear hy_86
        have w_88 : Int32.toInt (txL q_65 p1) = Int32.toInt (txL q_2 p1) := tx_eqL hF_82.2
        exact hn_52 q_65 y0_70 x7_67 x8_68 y_86 hT_81 ((cFr.rf : cFr [19] [(18, 1)] q_2 q_2).t hF_82 (by decide) (by decide)) (show 0 ≤ Int32.toInt y_86 by omega) (show Int32.toInt y_86 ≤ 64 by omega) (show 0 ≤ Int32.toInt y0_70 by omega) (show 0 ≤ Int32.toInt x8_68 by omega) (show Int32.toInt x8_68 < Int32.toInt x7_67 by omega) (show Int32.toInt x7_67 ≤ 400 by omega) (show Int32.toInt x7_67 ≤ Int32.toInt (txL q_65 p1) by omega) (show Int32.toInt x8_68 = Int32.toInt x8_13 by omega) (show Int32.toInt x7_67 = Int32.toInt x7_12 by omega)
      · have w_89 : Int32.toInt (txL q_65 p1) = Int32.toInt (txL q_2 p1) := tx_eqL hF_82.2
        exact hn_52 q_65 y0_70 x7_67 x8_68 x5_66 hT_81 ((cFr.rf : cFr [19] [(18, 1)] q_2 q_2).t hF_82 (by decide) (by decide)) (show 0 ≤ Int32.toInt x5_66 by omega) (show Int32.toInt x5_66 ≤ 64 by omega) (show 0 ≤ Int32.toInt y0_70 by omega) (show 0 ≤ Int32.toInt x8_68 by omega) (show Int32.toInt x8_68 < Int32.toInt x7_67 by omega) (show Int32.toInt x7_67 ≤ 400 by omega) (show Int32.toInt x7_67 ≤ Int32.toInt (txL q_65 p1) by omega) (show Int32.toInt x8_68 = Int32.toInt x8_13 by omega) (show Int32.toInt x7_67 = Int32.toInt x7_12 by omega)
    have hn_97 : ∀ (q_90 : dK) (x5_91 : Int32) (x6_92 : Int32) (x7_93 : Int32) (x8_94 : Int32) (x10_95 : Int32) (y0_96 : Int32), TC q_90 → cFr [19] [(18, 1)] q_2 q_90 → (1 ≤ Int32.toInt x5_91) → (Int32.toInt x5_91 ≤ 63) → (0 ≤ Int32.toInt x6_92) → (0 ≤ Int32.toInt x8_94) → (Int32.toInt x8_94 < Int32.toInt x7_93) → (0 ≤ Int32.toInt x10_95) → (Int32.toInt x7_93 ≤ 400) → (Int32.toInt x7_93 ≤ Int32.toInt (txL q_90 p1)) → (Int32.toInt x8_94 = Int32.toInt x8_13) → (Int32.toInt x7_93 = Int32.toInt x7_12) → dOk (zX2_valueOf_s18_l_s21_251 (fun q x1 x5 x6 x7 x8 => k_7 (q, x1, x5, x6, x7, x8)) q_90 p1 x5_91 x6_92 x7_93 x8_94 x10_95 y0_96 ) (fun (o : Int32 × dK) => (TC o.2) ∧ (cFr [19] [(18, 1)] q o.2)) := by
      intro q_90 x5_91 x6_92 x7_93 x8_94 x10_95 y0_96 hT_108 hF_109 b_98 b_99 b_100 b_101 b_102 b_103 b_104 b_105 b_106 b_107
      unfold zX2_valueOf_s18_l_s21_251
      have hFq_90 : cFr [19] [(18, 1)] q q_90 := hFq_2.t hF_109 (by decide) (by decide)
      refine dOk_eq (A := Int32.toInt y0_96) (B := 0) rfl (by decide) (fun c_110z c_110 => ?_) (fun c_111z c_111 => ?_)
      · have w_113 : Int32.toInt (txL q_90 p1) = Int32.toInt (txL q_2 p1) := tx_eqL hF_109.2
        exact hn_71 q_90 x5_91 x7_93 x8_94 y0_96 x6_92 hT_108 ((cFr.rf : cFr [19] [(18, 1)] q_2 q_2).t hF_109 (by decide) (by decide)) (show 1 ≤ Int32.toInt x5_91 by omega) (show Int32.toInt x5_91 ≤ 63 by omega) (show 0 ≤ Int32.toInt x6_92 by omega) (show 0 ≤ Int32.toInt x8_94 by omega) (show Int32.toInt x8_94 < Int32.toInt x7_93 by omega) (show Int32.toInt x7_93 ≤ 400 by omega) (show Int32.toInt x7_93 ≤ Int32.toInt (txL q_90 p1) by omega) (show Int32.toInt x8_94 = Int32.toInt x8_13 by omega) (show Int32.toInt x7_93 = Int32.toInt x7_12 by omega)
      · have w_114 : Int32.toInt (txL q_90 p1) = Int32.toInt (txL q_2 p1) := tx_eqL hF_109.2
        exact hn_71 q_90 x5_91 x7_93 x8_94 y0_96 x10_95 hT_108 ((cFr.rf : cFr [19] [(18, 1)] q_2 q_2).t hF_109 (by decide) (by decide)) (show 1 ≤ Int32.toInt x5_91 by omega) (show Int32.toInt x5_91 ≤ 63 by omega) (show 0 ≤ Int32.toInt x10_95 by omega) (show 0 ≤ Int32.toInt x8_94 by omega) (show Int32.toInt x8_94 < Int32.toInt x7_93 by omega) (show Int32.toInt x7_93 ≤ 400 by omega) (show Int32.toInt x7_93 ≤ Int32.toInt (txL q_90 p1) by omega) (show Int32.toInt x8_94 = Int32.toInt x8_13 by omega) (show Int32.toInt x7_93 = Int32.toInt x7_12 by omega)
    have hn_123 : ∀ (q_115 : dK) (x5_116 : Int32) (x6_117 : Int32) (x7_118 : Int32) (x8_119 : Int32) (x10_120 : Int32) (y0_121 : Int32) (y1_122 : Int32), TC q_115 → cFr [19] [(18, 1)] q_2 q_115 → (1 ≤ Int32.toInt x5_116) → (Int32.toInt x5_116 ≤ 63) → (0 ≤ Int32.toInt x6_117) → (0 ≤ Int32.toInt x8_119) → (Int32.toInt x8_119 < Int32.toInt x7_118) → (0 ≤ Int32.toInt x10_120) → (Int32.toInt x7_118 ≤ 400) → (Int32.toInt x7_118 ≤ Int32.toInt (txL q_115 p1)) → (Int32.toInt x8_119 = Int32.toInt x8_13) → (Int32.toInt x7_118 = Int32.toInt x7_12) → dOk (zX2_valueOf_s18_l_s21_243 (fun q x1 x5 x6 x7 x8 => k_7 (q, x1, x5, x6, x7, x8)) q_115 p1 x5_116 x6_117 x7_118 x8_119 x10_120 y0_121 y1_122 ) (fun (o : Int32 × dK) => (TC o.2) ∧ (cFr [19] [(18, 1)] q o.2)) := by
      intro q_115 x5_116 x6_117 x7_118 x8_119 x10_120 y0_121 y1_122 hT_134 hF_135 b_124 b_125 b_126 b_127 b_128 b_129 b_130 b_131 b_132 b_133
      unfold zX2_valueOf_s18_l_s21_243
      have hFq_115 : cFr [19] [(18, 1)] q q_115 := hFq_2.t hF_135 (by decide) (by decide)
      refine dOk_eq (A := Int32.toInt y1_122) (B := Int32.toInt y0_121) rfl rfl (fun c_136z c_136 => ?_) (fun c_137z c_137 => ?_)
      · have w_139 : Int32.toInt (txL q_115 p1) = Int32.toInt (txL q_2 p1) := tx_eqL hF_135.2
        exact hn_97 q_115 x5_116 x6_117 x7_118 x8_119 x10_120 1 hT_134 ((cFr.rf : cFr [19] [(18, 1)] q_2 q_2).t hF_135 (by decide) (by decide)) (show 1 ≤ Int32.toInt x5_116 by omega) (show Int32.toInt x5_116 ≤ 63 by omega) (show 0 ≤ Int32.toInt x6_117 by omega) (show 0 ≤ Int32.toInt x8_119 by omega) (show Int32.toInt x8_119 < Int32.toInt x7_118 by omega) (show 0 ≤ Int32.toInt x10_120 by omega) (show Int32.toInt x7_118 ≤ 400 by omega) (show Int32.toInt x7_118 ≤ Int32.toInt (txL q_115 p1) by omega) (show Int32.toInt x8_119 = Int32.toInt x8_13 by omega) (show Int32.toInt x7_118 = Int32.toInt x7_12 by omega)
      · have w_140 : Int32.toInt (txL q_115 p1) = Int32.toInt (txL q_2 p1) := tx_eqL hF_135.2
        exact hn_97 q_115 x5_116 x6_117 x7_118 x8_119 x10_120 0 hT_134 ((cFr.rf : cFr [19] [(18, 1)] q_2 q_2).t hF_135 (by decide) (by decide)) (show 1 ≤ Int32.toInt x5_116 by omega) (show Int32.toInt x5_116 ≤ 63 by omega) (show 0 ≤ Int32.toInt x6_117 by omega) (show 0 ≤ Int32.toInt x8_119 by omega) (show Int32.toInt x8_119 < Int32.toInt x7_118 by omega) (show 0 ≤ Int32.toInt x10_120 by omega) (show Int32.toInt x7_118 ≤ 400 by omega) (show Int32.toInt x7_118 ≤ Int32.toInt (txL q_115 p1) by omega) (show Int32.toInt x8_119 = Int32.toInt x8_13 by omega) (show Int32.toInt x7_118 = Int32.toInt x7_12 by omega)
    have hn_148 : ∀ (q_141 : dK) (x5_142 : Int32) (x6_143 : Int32) (x7_144 : Int32) (x8_145 : Int32) (x9_146 : Int32) (x10_147 : Int32), TC q_141 → cFr [19] [(18, 1)] q_2 q_141 → (1 ≤ Int32.toInt x5_142) → (Int32.toInt x5_142 ≤ 63) → (0 ≤ Int32.toInt x6_143) → (0 ≤ Int32.toInt x8_145) → (Int32.toInt x8_145 < Int32.toInt x7_144) → (0 ≤ Int32.toInt x10_147) → (Int32.toInt x7_144 ≤ 400) → (Int32.toInt x7_144 ≤ Int32.toInt (txL q_141 p1)) → (Int32.toInt x8_145 = Int32.toInt x8_13) → (Int32.toInt x7_144 = Int32.toInt x7_12) → dOk (zX2_valueOf_s18_l_s21_222 (fun q x1 x5 x6 x7 x8 => k_7 (q, x1, x5, x6, x7, x8)) q_141 p1 x5_142 x6_143 x7_144 x8_145 x9_146 x10_147 ) (fun (o : Int32 × dK) => (TC o.2) ∧ (cFr [19] [(18, 1)] q o.2)) := by
      intro q_141 x5_142 x6_143 x7_144 x8_145 x9_146 x10_147 hT_159 hF_160 b_149 b_150 b_151 b_152 b_153 b_154 b_155 b_156 b_157 b_158
      unfold zX2_valueOf_s18_l_s21_222
      have hFq_141 : cFr [19] [(18, 1)] q q_141 := hFq_2.t hF_160 (by decide) (by decide)
      obtain ⟨y_161, hy_161⟩ : ∃ y : Int32, (x5_142 - 1 : Int32) = y := ⟨_, rfl⟩
      have t_162 : Int32.toInt y_161 = Int32.toInt x5_142 - 1 := by rw [← hy_161]; exact ti_sub rfl (by decide) (by omega) (by omega)
      try rw [hy_161]
      clear hy_161
      refine dOk_G (dg_ok (show 0 ≤ Int32.toInt y_161 by omega) (show Int32.toInt y_161 < ((64 : Nat) : Int) by omega)) ?_
      have n_163 : ((Int32.toNatClampNeg y_161 : Nat) : Int) = Int32.toInt y_161 := cl_eq (by omega)
      refine dOk_L (fun v_164 ev_164 => ?_)
      refine dOk_eq (A := Int32.toInt x9_146) (B := 12) rfl (by decide) (fun c_165z c_165 => ?_) (fun c_166z c_166 => ?_)
      · have w_168 : Int32.toInt (txL q_141 p1) = Int32.toInt (txL q_2 p1) := tx_eqL hF_160.2
        exact hn_123 q_141 x5_142 x6_143 x7_144 x8_145 x10_147 1 v_164 hT_159 ((cFr.rf : cFr [19] [(18, 1)] q_2 q_2).t hF_160 (by decide) (by decide)) (show 1 ≤ Int32.toInt x5_142 by omega) (show Int32.toInt x5_142 ≤ 63 by omega) (show 0 ≤ Int32.toInt x6_143 by omega) (show 0 ≤ Int32.toInt x8_145 by omega) (show Int32.toInt x8_145 < Int32.toInt x7_144 by omega) (show 0 ≤ Int32.toInt x10_147 by omega) (show Int32.toInt x7_144 ≤ 400 by omega) (show Int32.toInt x7_144 ≤ Int32.toInt (txL q_141 p1) by omega) (show Int32.toInt x8_145 = Int32.toInt x8_13 by omega) (show Int32.toInt x7_144 = Int32.toInt x7_12 by omega)
      · have w_169 : Int32.toInt (txL q_141 p1) = Int32.toInt (txL q_2 p1) := tx_eqL hF_160.2
        exact hn_123 q_141 x5_142 x6_143 x7_144 x8_145 x10_147 0 v_164 hT_159 ((cFr.rf : cFr [19] [(18, 1)] q_2 q_2).t hF_160 (by decide) (by decide)) (show 1 ≤ Int32.toInt x5_142 by omega) (show Int32.toInt x5_142 ≤ 63 by omega) (show 0 ≤ Int32.toInt x6_143 by omega) (show 0 ≤ Int32.toInt x8_145 by omega) (show Int32.toInt x8_145 < Int32.toInt x7_144 by omega) (show 0 ≤ Int32.toInt x10_147 by omega) (show Int32.toInt x7_144 ≤ 400 by omega) (show Int32.toInt x7_144 ≤ Int32.toInt (txL q_141 p1) by omega) (show Int32.toInt x8_145 = Int32.toInt x8_13 by omega) (show Int32.toInt x7_144 = Int32.toInt x7_12 by omega)
    have hn_177 : ∀ (q_170 : dK) (x5_171 : Int32) (x6_172 : Int32) (x7_173 : Int32) (x8_174 : Int32) (y0_175 : Int32) (y1_176 : Int32), TC q_170 → cFr [19] [(18, 1)] q_2 q_170 → (0 ≤ Int32.toInt x5_171) → (Int32.toInt x5_171 ≤ 63) → (Int32.toInt y1_176 = Int32.toInt x5_171) → (0 ≤ Int32.toInt x6_172) → (0 ≤ Int32.toInt x8_174) → (Int32.toInt x8_174 < Int32.toInt x7_173) → (Int32.toInt x7_173 ≤ 400) → (Int32.toInt x7_173 ≤ Int32.toInt (txL q_170 p1)) → (Int32.toInt x8_174 = Int32.toInt x8_13) → (Int32.toInt x7_173 = Int32.toInt x7_12) → dOk (zX2_valueOf_s18_l_s21_171 (fun q x1 x5 x6 x7 x8 => k_7 (q, x1, x5, x6, x7, x8)) q_170 p1 x5_171 x6_172 x7_173 x8_174 y0_175 y1_176 ) (fun (o : Int32 × dK) => (TC o.2) ∧ (cFr [19] [(18, 1)] q o.2)) := by
      intro q_170 x5_171 x6_172 x7_173 x8_174 y0_175 y1_176 hT_188 hF_189 b_178 b_179 b_180 b_181 b_182 b_183 b_184 b_185 b_186 b_187
      unfold zX2_valueOf_s18_l_s21_171
      have hFq_170 : cFr [19] [(18, 1)] q q_170 := hFq_2.t hF_189 (by decide) (by decide)
      refine dOk_G (dg_ok (show 0 ≤ Int32.toInt y1_176 by omega) (show Int32.toInt y1_176 < ((64 : Nat) : Int) by omega)) ?_
      have n_190 : ((Int32.toNatClampNeg y1_176 : Nat) : Int) = Int32.toInt y1_176 := cl_eq (by omega)
      refine dOk_L (fun q_191 eq_191 => ?_)
      have hTq_191 : TC q_191 := by rw [eq_191]; exact sa_19 hT_188
      have hFq_191 : cFr [19] [(18, 1)] q q_191 := by rw [eq_191]; exact hFq_170.i (by decide)
      obtain ⟨y_192, hy_192⟩ : ∃ y : Int32, (x5_171 + 1 : Int32) = y := ⟨_, rfl⟩
      have t_193 : Int32.toInt y_192 = Int32.toInt x5_171 + 1 := by rw [← hy_192]; exact ti_add rfl (by decide) (by omega) (by omega)
      try rw [hy_192]
      clear hy_192
      have w_194 : Int32.toInt (txL q_170 p1) = Int32.toInt (txL q_2 p1) := tx_eqL hF_189.2
      have w_195 : Int32.toInt (txL q_191 p1) = Int32.toInt (txL q_170 p1) := tx_eqL (by rw [eq_191]; rfl)
      exact hn_32 q_191 y_192 x6_172 x7_173 x8_174 hTq_191 (by rw [eq_191]; exact (((cFr.rf : cFr [19] [(18, 1)] q_2 q_2).t hF_189 (by decide) (by decide)) : cFr [19] [(18, 1)] q_2 q_170).i (by decide)) (show 0 ≤ Int32.toInt y_192 by omega) (show Int32.toInt y_192 ≤ 64 by omega) (show 0 ≤ Int32.toInt x6_172 by omega) (show 0 ≤ Int32.toInt x8_174 by omega) (show Int32.toInt x8_174 < Int32.toInt x7_173 by omega) (show Int32.toInt x7_173 ≤ 400 by omega) (show Int32.toInt x7_173 ≤ Int32.toInt (txL q_191 p1) by omega) (show Int32.toInt x8_174 = Int32.toInt x8_13 by omega) (show Int32.toInt x7_173 = Int32.toInt x7_12 by omega)
    have hn_203 : ∀ (q_196 : dK) (x5_197 : Int32) (x6_198 : Int32) (x7_199 : Int32) (x8_200 : Int32) (x9_201 : Int32) (x10_202 : Int32), TC q_196 → cFr [19] [(18, 1)] q_2 q_196 → (0 ≤ Int32.toInt x5_197) → (Int32.toInt x5_197 ≤ 63) → (0 ≤ Int32.toInt x6_198) → (0 ≤ Int32.toInt x8_200) → (Int32.toInt x8_200 < Int32.toInt x7_199) → (0 ≤ Int32.toInt x10_202) → (Int32.toInt x9_201 = 0 ∨ Int32.toInt x10_202 < 9) → (Int32.toInt x7_199 ≤ 400) → (Int32.toInt x7_199 ≤ Int32.toInt (txL q_196 p1)) → (Int32.toInt x8_200 = Int32.toInt x8_13) → (Int32.toInt x7_199 = Int32.toInt x7_12) → dOk (zX2_valueOf_s18_l_s21_150 (fun q x1 x5 x6 x7 x8 => k_7 (q, x1, x5, x6, x7, x8)) q_196 p1 x5_197 x6_198 x7_199 x8_200 x9_201 x10_202 ) (fun (o : Int32 × dK) => (TC o.2) ∧ (cFr [19] [(18, 1)] q o.2)) := by
      intro q_196 x5_197 x6_198 x7_199 x8_200 x9_201 x10_202 hT_215 hF_216 b_204 b_205 b_206 b_207 b_208 b_209 b_210 b_211 b_212 b_213 b_214
      unfold zX2_valueOf_s18_l_s21_150
      have hFq_196 : cFr [19] [(18, 1)] q q_196 := hFq_2.t hF_216 (by decide) (by decide)
      refine dOk_eq (A := Int32.toInt x9_201) (B := 0) rfl (by decide) (fun c_217z c_217 => ?_) (fun c_218z c_218 => ?_)
      · have w_220 : Int32.toInt (txL q_196 p1) = Int32.toInt (txL q_2 p1) := tx_eqL hF_216.2
        exact hn_177 q_196 x5_197 x6_198 x7_199 x8_200 x10_202 x5_197 hT_215 ((cFr.rf : cFr [19] [(18, 1)] q_2 q_2).t hF_216 (by decide) (by decide)) (show 0 ≤ Int32.toInt x5_197 by omega) (show Int32.toInt x5_197 ≤ 63 by omega) (show Int32.toInt x5_197 = Int32.toInt x5_197 by omega) (show 0 ≤ Int32.toInt x6_198 by omega) (show 0 ≤ Int32.toInt x8_200 by omega) (show Int32.toInt x8_200 < Int32.toInt x7_199 by omega) (show Int32.toInt x7_199 ≤ 400 by omega) (show Int32.toInt x7_199 ≤ Int32.toInt (txL q_196 p1) by omega) (show Int32.toInt x8_200 = Int32.toInt x8_13 by omega) (show Int32.toInt x7_199 = Int32.toInt x7_12 by omega)
      · refine dOk_G (dg_ok (show 0 ≤ Int32.toInt x10_202 by omega) (show Int32.toInt x10_202 < ((9 : Nat) : Int) by omega)) ?_
        have n_221 : ((Int32.toNatClampNeg x10_202 : Nat) : Int) = Int32.toInt x10_202 := cl_eq (by omega)
        refine dOk_L (fun v_222 ev_222 => ?_)
        have w_223 : Int32.toInt (txL q_196 p1) = Int32.toInt (txL q_2 p1) := tx_eqL hF_216.2
        exact hn_177 q_196 x5_197 x6_198 x7_199 x8_200 v_222 x5_197 hT_215 ((cFr.rf : cFr [19] [(18, 1)] q_2 q_2).t hF_216 (by decide) (by decide)) (show 0 ≤ Int32.toInt x5_197 by omega) (show Int32.toInt x5_197 ≤ 63 by omega) (show Int32.toInt x5_197 = Int32.toInt x5_197 by omega) (show 0 ≤ Int32.toInt x6_198 by omega) (show 0 ≤ Int32.toInt x8_200 by omega) (show Int32.toInt x8_200 < Int32.toInt x7_199 by omega) (show Int32.toInt x7_199 ≤ 400 by omega) (show Int32.toInt x7_199 ≤ Int32.toInt (txL q_196 p1) by omega) (show Int32.toInt x8_200 = Int32.toInt x8_13 by omega) (show Int32.toInt x7_199 = Int32.toInt x7_12 by omega)
    have hn_229 : ∀ (q_224 : dK) (x5_225 : Int32) (x6_226 : Int32) (x7_227 : Int32) (x8_228 : Int32), TC q_224 → cFr [19] [(18, 1)] q_2 q_224 → (0 ≤ Int32.toInt x5_225) → (Int32.toInt x5_225 ≤ 64) → (0 ≤ Int32.toInt x6_226) → (0 ≤ Int32.toInt x8_228) → (Int32.toInt x8_228 < Int32.toInt x7_227) → (Int32.toInt x7_227 ≤ 400) → (Int32.toInt x7_227 ≤ Int32.toInt (txL q_224 p1)) → (Int32.toInt x8_228 = Int32.toInt x8_13) → (Int32.toInt x7_227 = Int32.toInt x7_12) → dOk (zX2_valueOf_s18_l_s21_131 (fun q x1 x5 x6 x7 x8 => k_7 (q, x1, x5, x6, x7, x8)) q_224 p1 x5_225 x6_226 x7_227 x8_228 ) (fun (o : Int32 × dK) => (TC o.2) ∧ (cFr [19] [(18, 1)] q o.2)) := by
      intro q_224 x5_225 x6_226 x7_227 x8_228 hT_239 hF_240 b_230 b_231 b_232 b_233 b_234 b_235 b_236 b_237 b_238
      unfold zX2_valueOf_s18_l_s21_131
      have hFq_224 : cFr [19] [(18, 1)] q q_224 := hFq_2.t hF_240 (by decide) (by decide)
      refine dOk_L (fun q_241 eq_241 => ?_)
      have hTq_241 : TC q_241 := by rw [eq_241]; exact st_18_1 hT_239 (show (0 : Int) ≤ (1 : Int) by omega) (show (1 : Int) ≤ (1 : Int) by omega)
      have hFq_241 : cFr [19] [(18, 1)] q q_241 := by rw [eq_241]; exact hFq_224.f (by decide)
      have w_242 : Int32.toInt (txL q_224 p1) = Int32.toInt (txL q_2 p1) := tx_eqL hF_240.2
      have w_243 : Int32.toInt (txL q_241 p1) = Int32.toInt (txL q_224 p1) := tx_eqL (by rw [eq_241]; rfl)
      exact hn_32 q_241 x5_225 x6_226 x7_227 x8_228 hTq_241 (by rw [eq_241]; exact (((cFr.rf : cFr [19] [(18, 1)] q_2 q_2).t hF_240 (by decide) (by decide)) : cFr [19] [(18, 1)] q_2 q_224).f (by decide)) (show 0 ≤ Int32.toInt x5_225 by omega) (show Int32.toInt x5_225 ≤ 64 by omega) (show 0 ≤ Int32.toInt x6_226 by omega) (show 0 ≤ Int32.toInt x8_228 by omega) (show Int32.toInt x8_228 < Int32.toInt x7_227 by omega) (show Int32.toInt x7_227 ≤ 400 by omega) (show Int32.toInt x7_227 ≤ Int32.toInt (txL q_241 p1) by omega) (show Int32.toInt x8_228 = Int32.toInt x8_13 by omega) (show Int32.toInt x7_227 = Int32.toInt x7_12 by omega)
    have hn_251 : ∀ (q_244 : dK) (x5_245 : Int32) (x6_246 : Int32) (x7_247 : Int32) (x8_248 : Int32) (x9_249 : Int32) (x10_250 : Int32), TC q_244 → cFr [19] [(18, 1)] q_2 q_244 → (0 ≤ Int32.toInt x5_245) → (Int32.toInt x5_245 ≤ 63) → (0 ≤ Int32.toInt x6_246) → (0 ≤ Int32.toInt x8_248) → (Int32.toInt x8_248 < Int32.toInt x7_247) → (0 ≤ Int32.toInt x10_250) → ((Int32.toInt x9_249 = 0 ∨ (Int32.toInt x9_249 = 1 ∧ Int32.toInt x10_250 < 9) ∨ (2 ≤ Int32.toInt x9_249 ∧ Int32.toInt x9_249 ≤ 9 ∧ 2 ≤ Int32.toInt x5_245) ∨ (10 ≤ Int32.toInt x9_249 ∧ Int32.toInt x9_249 ≤ 12 ∧ 1 ≤ Int32.toInt x5_245))) → (Int32.toInt x7_247 ≤ 400) → (Int32.toInt x7_247 ≤ Int32.toInt (txL q_244 p1)) → (Int32.toInt x8_248 = Int32.toInt x8_13) → (Int32.toInt x7_247 = Int32.toInt x7_12) → dOk (zX2_valueOf_s18_l_s21_139 (fun q x1 x5 x6 x7 x8 => k_7 (q, x1, x5, x6, x7, x8)) q_244 p1 x5_245 x6_246 x7_247 x8_248 x9_249 x10_250 ) (fun (o : Int32 × dK) => (TC o.2) ∧ (cFr [19] [(18, 1)] q o.2)) := by
      intro q_244 x5_245 x6_246 x7_247 x8_248 x9_249 x10_250 hT_263 hF_264 b_252 b_253 b_254 b_255 b_256 b_257 b_258 b_259 b_260 b_261 b_262
      unfold zX2_valueOf_s18_l_s21_139
      have hFq_244 : cFr [19] [(18, 1)] q q_244 := hFq_2.t hF_264 (by decide) (by decide)
      refine dOk_eq (A := Int32.toInt x9_249) (B := 0) rfl (by decide) (fun c_265z c_265 => ?_) (fun c_266z c_266 => ?_)
      · have w_268 : Int32.toInt (txL q_244 p1) = Int32.toInt (txL q_2 p1) := tx_eqL hF_264.2
        exact hn_203 q_244 x5_245 x6_246 x7_247 x8_248 x9_249 x10_250 hT_263 ((cFr.rf : cFr [19] [(18, 1)] q_2 q_2).t hF_264 (by decide) (by decide)) (show 0 ≤ Int32.toInt x5_245 by omega) (show Int32.toInt x5_245 ≤ 63 by omega) (show 0 ≤ Int32.toInt x6_246 by omega) (show 0 ≤ Int32.toInt x8_248 by omega) (show Int32.toInt x8_248 < Int32.toInt x7_247 by omega) (show 0 ≤ Int32.toInt x10_250 by omega) (show Int32.toInt x9_249 = 0 ∨ Int32.toInt x10_250 < 9 by omega) (show Int32.toInt x7_247 ≤ 400 by omega) (show Int32.toInt x7_247 ≤ Int32.toInt (txL q_244 p1) by omega) (show Int32.toInt x8_248 = Int32.toInt x8_13 by omega) (show Int32.toInt x7_247 = Int32.toInt x7_12 by omega)
      · refine dOk_eq (A := Int32.toInt x9_249) (B := 1) rfl (by decide) (fun c_269z c_269 => ?_) (fun c_270z c_270 => ?_)
        · have w_272 : Int32.toInt (txL q_244 p1) = Int32.toInt (txL q_2 p1) := tx_eqL hF_264.2
          exact hn_203 q_244 x5_245 x6_246 x7_247 x8_248 x9_249 x10_250 hT_263 ((cFr.rf : cFr [19] [(18, 1)] q_2 q_2).t hF_264 (by decide) (by decide)) (show 0 ≤ Int32.toInt x5_245 by omega) (show Int32.toInt x5_245 ≤ 63 by omega) (show 0 ≤ Int32.toInt x6_246 by omega) (show 0 ≤ Int32.toInt x8_248 by omega) (show Int32.toInt x8_248 < Int32.toInt x7_247 by omega) (show 0 ≤ Int32.toInt x10_250 by omega) (show Int32.toInt x9_249 = 0 ∨ Int32.toInt x10_250 < 9 by omega) (show Int32.toInt x7_247 ≤ 400 by omega) (show Int32.toInt x7_247 ≤ Int32.toInt (txL q_244 p1) by omega) (show Int32.toInt x8_248 = Int32.toInt x8_13 by omega) (show Int32.toInt x7_247 = Int32.toInt x7_12 by omega)
        · refine dOk_eq (A := Int32.toInt x9_249) (B := 10) rfl (by decide) (fun c_273z c_273 => ?_) (fun c_274z c_274 => ?_)
          · obtain ⟨y_276, hy_276⟩ : ∃ y : Int32, (x5_245 - 1 : Int32) = y := ⟨_, rfl⟩
            have t_277 : Int32.toInt y_276 = Int32.toInt x5_245 - 1 := by rw [← hy_276]; exact ti_sub rfl (by decide) (by omega) (by omega)
            try rw [hy_276]
            clear hy_276
            refine dOk_G (dg_ok (show 0 ≤ Int32.toInt y_276 by omega) (show Int32.toInt y_276 < ((64 : Nat) : Int) by omega)) ?_
            have n_278 : ((Int32.toNatClampNeg y_276 : Nat) : Int) = Int32.toInt y_276 := cl_eq (by omega)
            refine dOk_L (fun v_279 ev_279 => ?_)
            refine dOk_G (dg_ok (show 0 ≤ Int32.toInt y_276 by omega) (show Int32.toInt y_276 < ((64 : Nat) : Int) by omega)) ?_
            refine dOk_L (fun q_280 eq_280 => ?_)
            have hTq_280 : TC q_280 := by rw [eq_280]; exact sa_19 hT_263
            have hFq_280 : cFr [19] [(18, 1)] q q_280 := by rw [eq_280]; exact hFq_244.i (by decide)
            have w_281 : Int32.toInt (txL q_244 p1) = Int32.toInt (txL q_2 p1) := tx_eqL hF_264.2
            have w_282 : Int32.toInt (txL q_280 p1) = Int32.toInt (txL q_244 p1) := tx_eqL (by rw [eq_280]; rfl)
            exact hn_32 q_280 x5_245 x6_246 x7_247 x8_248 hTq_280 (by rw [eq_280]; exact (((cFr.rf : cFr [19] [(18, 1)] q_2 q_2).t hF_264 (by decide) (by decide)) : cFr [19] [(18, 1)] q_2 q_244).i (by decide)) (show 0 ≤ Int32.toInt x5_245 by omega) (show Int32.toInt x5_245 ≤ 64 by omega) (show 0 ≤ Int32.toInt x6_246 by omega) (show 0 ≤ Int32.toInt x8_248 by omega) (show Int32.toInt x8_248 < Int32.toInt x7_247 by omega) (show Int32.toInt x7_247 ≤ 400 by omega) (show Int32.toInt x7_247 ≤ Int32.toInt (txL q_280 p1) by omega) (show Int32.toInt x8_248 = Int32.toInt x8_13 by omega) (show Int32.toInt x7_247 = Int32.toInt x7_12 by omega)
          · refine dOk_eq (A := Int32.toInt x9_249) (B := 11) rfl (by decide) (fun c_283z c_283 => ?_) (fun c_284z c_284 => ?_)
            · have w_286 : Int32.toInt (txL q_244 p1) = Int32.toInt (txL q_2 p1) := tx_eqL hF_264.2
              exact hn_148 q_244 x5_245 x6_246 x7_247 x8_248 x9_249 x10_250 hT_263 ((cFr.rf : cFr [19] [(18, 1)] q_2 q_2).t hF_264 (by decide) (by decide)) (show 1 ≤ Int32.toInt x5_245 by omega) (show Int32.toInt x5_245 ≤ 63 by omega) (show 0 ≤ Int32.toInt x6_246 by omega) (show 0 ≤ Int32.toInt x8_248 by omega) (show Int32.toInt x8_248 < Int32.toInt x7_247 by omega) (show 0 ≤ Int32.toInt x10_250 by omega) (show Int32.toInt x7_247 ≤ 400 by omega) (show Int32.toInt x7_247 ≤ Int32.toInt (txL q_244 p1) by omega) (show Int32.toInt x8_248 = Int32.toInt x8_13 by omega) (show Int32.toInt x7_247 = Int32.toInt x7_12 by omega)
            · refine dOk_eq (A := Int32.toInt x9_249) (B := 12) rfl (by decide) (fun c_287z c_287 => ?_) (fun c_288z c_288 => ?_)
              · have w_290 : Int32.toInt (txL q_244 p1) = Int32.toInt (txL q_2 p1) := tx_eqL hF_264.2
                exact hn_148 q_244 x5_245 x6_246 x7_247 x8_248 x9_249 x10_250 hT_263 ((cFr.rf : cFr [19] [(18, 1)] q_2 q_2).t hF_264 (by decide) (by decide)) (show 1 ≤ Int32.toInt x5_245 by omega) (show Int32.toInt x5_245 ≤ 63 by omega) (show 0 ≤ Int32.toInt x6_246 by omega) (show 0 ≤ Int32.toInt x8_248 by omega) (show Int32.toInt x8_248 < Int32.toInt x7_247 by omega) (show 0 ≤ Int32.toInt x10_250 by omega) (show Int32.toInt x7_247 ≤ 400 by omega) (show Int32.toInt x7_247 ≤ Int32.toInt (txL q_244 p1) by omega) (show Int32.toInt x8_248 = Int32.toInt x8_13 by omega) (show Int32.toInt x7_247 = Int32.toInt x7_12 by omega)
              · obtain ⟨y_291, hy_291⟩ : ∃ y : Int32, (x5_245 + (-1) : Int32) = y := ⟨_, rfl⟩
                have t_292 : Int32.toInt y_291 = Int32.toInt x5_245 + (-1) := by rw [← hy_291]; exact ti_add rfl (by decide) (by omega) (by omega)
                try rw [hy_291]
                clear hy_291
                obtain ⟨y_293, hy_293⟩ : ∃ y : Int32, (y_291 - 1 : Int32) = y := ⟨_, rfl⟩
                have t_294 : Int32.toInt y_293 = Int32.toInt y_291 - 1 := by rw [← hy_293]; exact ti_sub rfl (by decide) (by omega) (by omega)
                try rw [hy_293]
                clear hy_293
                refine dOk_G (dg_ok (show 0 ≤ Int32.toInt y_293 by omega) (show Int32.toInt y_293 < ((64 : Nat) : Int) by omega)) ?_
                have n_295 : ((Int32.toNatClampNeg y_293 : Nat) : Int) = Int32.toInt y_293 := cl_eq (by omega)
                refine dOk_L (fun v_296 ev_296 => ?_)
                refine dOk_G (dg_ok (show 0 ≤ Int32.toInt y_291 by omega) (show Int32.toInt y_291 < ((64 : Nat) : Int) by omega)) ?_
                have n_297 : ((Int32.toNatClampNeg y_291 : Nat) : Int) = Int32.toInt y_291 := cl_eq (by omega)
                refine dOk_L (fun v_298 ev_298 => ?_)
                refine dOk_B (ok_X2_join_s18 q_244 x9_249 (Int32.toInt64 v_296) (Int32.toInt64 v_298) hT_263) (fun r_299 q_300 h_301 => ?_)
                replace h_301 : (TC q_300) ∧ (cFr [] [(18, 1)] q_244 q_300) := h_301
                obtain ⟨i_302, i_303⟩ := h_301
                have hFq_300 : cFr [19] [(18, 1)] q q_300 := hFq_244.t i_303 (by decide) (by decide)
                refine dOk_G (dg_ok (show 0 ≤ Int32.toInt y_293 by omega) (show Int32.toInt y_293 < ((64 : Nat) : Int) by omega)) ?_
                refine dOk_L (fun q_304 eq_304 => ?_)
                have hTq_304 : TC q_304 := by rw [eq_304]; exact sa_19 i_302
                have hFq_304 : cFr [19] [(18, 1)] q q_304 := by rw [eq_304]; exact hFq_300.i (by decide)
                have w_305 : Int32.toInt (txL q_244 p1) = Int32.toInt (txL q_2 p1) := tx_eqL hF_264.2
                have w_306 : Int32.toInt (txL q_300 p1) = Int32.toInt (txL q_244 p1) := tx_eqL i_303.2
                have w_307 : Int32.toInt (txL q_304 p1) = Int32.toInt (txL q_300 p1) := tx_eqL (by rw [eq_304]; rfl)
                exact hn_32 q_304 y_291 x6_246 x7_247 x8_248 hTq_304 (by rw [eq_304]; exact (((((cFr.rf : cFr [19] [(18, 1)] q_2 q_2).t hF_264 (by decide) (by decide)) : cFr [19] [(18, 1)] q_2 q_244).t i_303 (by decide) (by decide)) : cFr [19] [(18, 1)] q_2 q_300).i (by decide)) (show 0 ≤ Int32.toInt y_291 by omega) (show Int32.toInt y_291 ≤ 64 by omega) (show 0 ≤ Int32.toInt x6_246 by omega) (show 0 ≤ Int32.toInt x8_248 by omega) (show Int32.toInt x8_248 < Int32.toInt x7_247 by omega) (show Int32.toInt x7_247 ≤ 400 by omega) (show Int32.toInt x7_247 ≤ Int32.toInt (txL q_304 p1) by omega) (show Int32.toInt x8_248 = Int32.toInt x8_13 by omega) (show Int32.toInt x7_247 = Int32.toInt x7_12 by omega)
    have hn_316 : ∀ (q_308 : dK) (x5_309 : Int32) (x6_310 : Int32) (x7_311 : Int32) (x8_312 : Int32) (x9_313 : Int32) (x10_314 : Int32) (y0_315 : Int32), TC q_308 → cFr [19] [(18, 1)] q_2 q_308 → (0 ≤ Int32.toInt x5_309) → (Int32.toInt x5_309 ≤ 64) → (0 ≤ Int32.toInt x6_310) → (Int32.toInt x6_310 < Int32.toInt x7_311) → (0 ≤ Int32.toInt x8_312) → (Int32.toInt x8_312 < Int32.toInt x7_311) → (0 ≤ Int32.toInt x10_314) → (((0 ≤ Int32.toInt x9_313 ∧ Int32.toInt x9_313 ≤ 1 ∧ Int32.toInt y0_315 = 0) ∨ (2 ≤ Int32.toInt x9_313 ∧ Int32.toInt x9_313 ≤ 9 ∧ Int32.toInt y0_315 = 2) ∨ (10 ≤ Int32.toInt x9_313 ∧ Int32.toInt x9_313 ≤ 12 ∧ Int32.toInt y0_315 = 1))) → (Int32.toInt x7_311 ≤ 400) → (Int32.toInt x7_311 ≤ Int32.toInt (txL q_308 p1)) → (Int32.toInt x8_312 = Int32.toInt x8_13) → (Int32.toInt x7_311 = Int32.toInt x7_12) → dOk (zX2_valueOf_s18_l_s21_98 (fun q x1 x5 x6 x7 x8 => k_7 (q, x1, x5, x6, x7, x8)) q_308 p1 x5_309 x6_310 x7_311 x8_312 x9_313 x10_314 y0_315 ) (fun (o : Int32 × dK) => (TC o.2) ∧ (cFr [19] [(18, 1)] q o.2)) := by
      intro q_308 x5_309 x6_310 x7_311 x8_312 x9_313 x10_314 y0_315 hT_329 hF_330 b_317 b_318 b_319 b_320 b_321 b_322 b_323 b_324 b_325 b_326 b_327 b_328
      unfold zX2_valueOf_s18_l_s21_98
      have hFq_308 : cFr [19] [(18, 1)] q q_308 := hFq_2.t hF_330 (by decide) (by decide)
      refine dOk_lt (A := Int32.toInt x5_309) (B := Int32.toInt y0_315) rfl rfl (fun c_331 => ?_) (fun c_332 => ?_)
      · obtain ⟨y_333, hy_333⟩ : ∃ y : Int32, (x6_310 + 1 : Int32) = y := ⟨_, rfl⟩
        have t_334 : Int32.toInt y_333 = Int32.toInt x6_310 + 1 := by rw [← hy_333]; exact ti_add rfl (by decide) (by omega) (by omega)
        try rw [hy_333]
        clear hy_333
        have w_335 : Int32.toInt (txL q_308 p1) = Int32.toInt (txL q_2 p1) := tx_eqL hF_330.2
        exact hn_229 q_308 x5_309 y_333 x7_311 x8_312 hT_329 ((cFr.rf : cFr [19] [(18, 1)] q_2 q_2).t hF_330 (by decide) (by decide)) (show 0 ≤ Int32.toInt x5_309 by omega) (show Int32.toInt x5_309 ≤ 64 by omega) (show 0 ≤ Int32.toInt y_333 by omega) (show 0 ≤ Int32.toInt x8_312 by omega) (show Int32.toInt x8_312 < Int32.toInt x7_311 by omega) (show Int32.toInt x7_311 ≤ 400 by omega) (show Int32.toInt x7_311 ≤ Int32.toInt (txL q_308 p1) by omega) (show Int32.toInt x8_312 = Int32.toInt x8_13 by omega) (show Int32.toInt x7_311 = Int32.toInt x7_12 by omega)
      · refine dOk_le (A := 64) (B := Int32.toInt x5_309) (by decide) rfl (fun c_336 => ?_) (fun c_337 => ?_)
        · obtain ⟨y_338, hy_338⟩ : ∃ y : Int32, (x6_310 + 1 : Int32) = y := ⟨_, rfl⟩
          have t_339 : Int32.toInt y_338 = Int32.toInt x6_310 + 1 := by rw [← hy_338]; exact ti_add rfl (by decide) (by omega) (by omega)
          try rw [hy_338]
          clear hy_338
          have w_340 : Int32.toInt (txL q_308 p1) = Int32.toInt (txL q_2 p1) := tx_eqL hF_330.2
          exact hn_229 q_308 x5_309 y_338 x7_311 x8_312 hT_329 ((cFr.rf : cFr [19] [(18, 1)] q_2 q_2).t hF_330 (by decide) (by decide)) (show 0 ≤ Int32.toInt x5_309 by omega) (show Int32.toInt x5_309 ≤ 64 by omega) (show 0 ≤ Int32.toInt y_338 by omega) (show 0 ≤ Int32.toInt x8_312 by omega) (show Int32.toInt x8_312 < Int32.toInt x7_311 by omega) (show Int32.toInt x7_311 ≤ 400 by omega) (show Int32.toInt x7_311 ≤ Int32.toInt (txL q_308 p1) by omega) (show Int32.toInt x8_312 = Int32.toInt x8_13 by omega) (show Int32.toInt x7_311 = Int32.toInt x7_12 by omega)
        · refine dOk_eq (A := Int32.toInt x9_313) (B := 1) rfl (by decide) (fun c_341z c_341 => ?_) (fun c_342z c_342 => ?_)
          · refine dOk_lt (A := Int32.toInt x10_314) (B := 9) rfl (by decide) (fun c_344 => ?_) (fun c_345 => ?_)
            · obtain ⟨y_346, hy_346⟩ : ∃ y : Int32, (x6_310 + 1 : Int32) = y := ⟨_, rfl⟩
              have t_347 : Int32.toInt y_346 = Int32.toInt x6_310 + 1 := by rw [← hy_346]; exact ti_add rfl (by decide) (by omega) (by omega)
              try rw [hy_346]
              clear hy_346
              have w_348 : Int32.toInt (txL q_308 p1) = Int32.toInt (txL q_2 p1) := tx_eqL hF_330.2
              exact hn_251 q_308 x5_309 y_346 x7_311 x8_312 x9_313 x10_314 hT_329 ((cFr.rf : cFr [19] [(18, 1)] q_2 q_2).t hF_330 (by decide) (by decide)) (show 0 ≤ Int32.toInt x5_309 by omega) (show Int32.toInt x5_309 ≤ 63 by omega) (show 0 ≤ Int32.toInt y_346 by omega) (show 0 ≤ Int32.toInt x8_312 by omega) (show Int32.toInt x8_312 < Int32.toInt x7_311 by omega) (show 0 ≤ Int32.toInt x10_314 by omega) (show (Int32.toInt x9_313 = 0 ∨ (Int32.toInt x9_313 = 1 ∧ Int32.toInt x10_314 < 9) ∨ (2 ≤ Int32.toInt x9_313 ∧ Int32.toInt x9_313 ≤ 9 ∧ 2 ≤ Int32.toInt x5_309) ∨ (10 ≤ Int32.toInt x9_313 ∧ Int32.toInt x9_313 ≤ 12 ∧ 1 ≤ Int32.toInt x5_309)) by omega) (show Int32.toInt x7_311 ≤ 400 by omega) (show Int32.toInt x7_311 ≤ Int32.toInt (txL q_308 p1) by omega) (show Int32.toInt x8_312 = Int32.toInt x8_13 by omega) (show Int32.toInt x7_311 = Int32.toInt x7_12 by omega)
            · obtain ⟨y_349, hy_349⟩ : ∃ y : Int32, (x6_310 + 1 : Int32) = y := ⟨_, rfl⟩
              have t_350 : Int32.toInt y_349 = Int32.toInt x6_310 + 1 := by rw [← hy_349]; exact ti_add rfl (by decide) (by omega) (by omega)
              try rw [hy_349]
              clear hy_349
              have w_351 : Int32.toInt (txL q_308 p1) = Int32.toInt (txL q_2 p1) := tx_eqL hF_330.2
              exact hn_229 q_308 x5_309 y_349 x7_311 x8_312 hT_329 ((cFr.rf : cFr [19] [(18, 1)] q_2 q_2).t hF_330 (by decide) (by decide)) (show 0 ≤ Int32.toInt x5_309 by omega) (show Int32.toInt x5_309 ≤ 64 by omega) (show 0 ≤ Int32.toInt y_349 by omega) (show 0 ≤ Int32.toInt x8_312 by omega) (show Int32.toInt x8_312 < Int32.toInt x7_311 by omega) (show Int32.toInt x7_311 ≤ 400 by omega) (show Int32.toInt x7_311 ≤ Int32.toInt (txL q_308 p1) by omega) (show Int32.toInt x8_312 = Int32.toInt x8_13 by omega) (show Int32.toInt x7_311 = Int32.toInt x7_12 by omega)
          · obtain ⟨y_352, hy_352⟩ : ∃ y : Int32, (x6_310 + 1 : Int32) = y := ⟨_, rfl⟩
            have t_353 : Int32.toInt y_352 = Int32.toInt x6_310 + 1 := by rw [← hy_352]; exact ti_add rfl (by decide) (by omega) (by omega)
            try rw [hy_352]
            clear hy_352
            have w_354 : Int32.toInt (txL q_308 p1) = Int32.toInt (txL q_2 p1) := tx_eqL hF_330.2
            exact hn_251 q_308 x5_309 y_352 x7_311 x8_312 x9_313 x10_314 hT_329 ((cFr.rf : cFr [19] [(18, 1)] q_2 q_2).t hF_330 (by decide) (by decide)) (show 0 ≤ Int32.toInt x5_309 by omega) (show Int32.toInt x5_309 ≤ 63 by omega) (show 0 ≤ Int32.toInt y_352 by omega) (show 0 ≤ Int32.toInt x8_312 by omega) (show Int32.toInt x8_312 < Int32.toInt x7_311 by omega) (show 0 ≤ Int32.toInt x10_314 by omega) (show (Int32.toInt x9_313 = 0 ∨ (Int32.toInt x9_313 = 1 ∧ Int32.toInt x10_314 < 9) ∨ (2 ≤ Int32.toInt x9_313 ∧ Int32.toInt x9_313 ≤ 9 ∧ 2 ≤ Int32.toInt x5_309) ∨ (10 ≤ Int32.toInt x9_313 ∧ Int32.toInt x9_313 ≤ 12 ∧ 1 ≤ Int32.toInt x5_309)) by omega) (show Int32.toInt x7_311 ≤ 400 by omega) (show Int32.toInt x7_311 ≤ Int32.toInt (txL q_308 p1) by omega) (show Int32.toInt x8_312 = Int32.toInt x8_13 by omega) (show Int32.toInt x7_311 = Int32.toInt x7_12 by omega)
    refine dOk_le (A := Int32.toInt x7_12) (B := Int32.toInt x8_13) rfl rfl (fun c_355 => ?_) (fun c_356 => ?_)
    · unfold zX2_valueOf_s18_l_s21_328
      have f_357 : 0 ≤ Int32.toInt (q_8.1 18 1) ∧ Int32.toInt (q_8.1 18 1) ≤ 1 := rg_18_1 a_14
      refine dOk_eq (A := Int32.toInt (q_8.1 18 1)) (B := 0) rfl (by decide) (fun c_358z c_358 => ?_) (fun c_359z c_359 => ?_)
      · unfold zX2_valueOf_s18_l_s21_345
        exact dOk_some (show (TC q_8) ∧ (cFr [19] [(18, 1)] q q_8) from ⟨a_14, hFq_8⟩)
      · unfold zX2_valueOf_s18_l_s21_345
        exact dOk_some (show (TC q_8) ∧ (cFr [19] [(18, 1)] q q_8) from ⟨a_14, hFq_8⟩)
    · refine dOk_le (A := Int32.toInt x7_12) (B := Int32.toInt x6_11) rfl rfl (fun c_361 => ?_) (fun c_362 => ?_)
      · unfold zX2_valueOf_s18_l_s21_328
        have f_363 : 0 ≤ Int32.toInt (q_8.1 18 1) ∧ Int32.toInt (q_8.1 18 1) ≤ 1 := rg_18_1 a_14
        refine dOk_eq (A := Int32.toInt (q_8.1 18 1)) (B := 0) rfl (by decide) (fun c_364z c_364 => ?_) (fun c_365z c_365 => ?_)
        · unfold zX2_valueOf_s18_l_s21_345
          exact dOk_some (show (TC q_8) ∧ (cFr [19] [(18, 1)] q q_8) from ⟨a_14, hFq_8⟩)
        · unfold zX2_valueOf_s18_l_s21_345
          exact dOk_some (show (TC q_8) ∧ (cFr [19] [(18, 1)] q q_8) from ⟨a_14, hFq_8⟩)
      · have f_367 : 0 ≤ Int32.toInt (q_8.1 18 1) ∧ Int32.toInt (q_8.1 18 1) ≤ 1 := rg_18_1 a_14
        refine dOk_eq (A := Int32.toInt (q_8.1 18 1)) (B := 0) rfl (by decide) (fun c_368z c_368 => ?_) (fun c_369z c_369 => ?_)
        · have n_371 : q_8.2.2.length = q_2.2.2.length := (congrArg List.length a_15.2)
          have g_372 : dlg q_8 p1 = true := tc_dlg a_14 (show ¬ Int32.toInt p1 = 0 by omega) (show 0 ≤ Int32.toInt p1 by omega) (show Int32.toInt p1 ≤ (q_8.2.2.length : Int) by omega)
          refine dOk_G g_372 ?_
          refine dOk_G g_372 ?_
          have f_373 : 0 ≤ Int32.toInt (txK q_8 p1) ∧ Int32.toInt (txK q_8 p1) ≤ 400 := tx_K a_14 g_372
          have w_374 : Int32.toInt (txK q_8 p1) = Int32.toInt (txL q_8 p1) := tx_K2 a_14 g_372
          have f_375 : 0 ≤ Int32.toInt (txK q_2 p1) ∧ Int32.toInt (txK q_2 p1) ≤ 400 := tx_K hTq_2 g_5
          have w_376 : Int32.toInt (txK q_2 p1) = Int32.toInt (txL q_2 p1) := tx_K2 hTq_2 g_5
          have w_377 : Int32.toInt (txK q_1 p1) = Int32.toInt (txK q p1) := tx_eqK (by rw [eq_1]; rfl)
          have w_378 : Int32.toInt (txK q_2 p1) = Int32.toInt (txK q_1 p1) := tx_eqK (by rw [eq_2]; rfl)
          have w_379 : Int32.toInt (txK q_8 p1) = Int32.toInt (txK q_2 p1) := tx_eqK a_15.2
          refine dOk_G (dg_ok (show 0 ≤ Int32.toInt x6_11 by omega) (show Int32.toInt x6_11 < ((Int32.toNatClampNeg (txK q_8 p1) : Nat) : Int) by rw [cl_eq (show 0 ≤ Int32.toInt (txK q_8 p1) by omega)]; omega)) ?_
          refine dOk_L (fun v_380 ev_380 => ?_)
          have f_381 : 0 ≤ Int32.toInt v_380 := by rw [ev_380]; exact tx_R a_14 g_372 _ _ (by decide)
          have hOv_380 : cOp v_380 := by rw [ev_380]; exact tx_O a_14 g_372 _
          refine dOk_G g_372 ?_
          refine dOk_G g_372 ?_
          refine dOk_G (dg_ok (show 0 ≤ Int32.toInt x6_11 by omega) (show Int32.toInt x6_11 < ((Int32.toNatClampNeg (txK q_8 p1) : Nat) : Int) by rw [cl_eq (show 0 ≤ Int32.toInt (txK q_8 p1) by omega)]; omega)) ?_
          refine dOk_L (fun v_382 ev_382 => ?_)
          have f_383 : 0 ≤ Int32.toInt v_382 := by rw [ev_382]; exact tx_R a_14 g_372 _ _ (by decide)
          have hOv_382 : cOp v_382 := by rw [ev_382]; exact tx_O a_14 g_372 _
          obtain ⟨y_384, hy_384⟩ : ∃ y : Int32, (v_380 &&& 15 : Int32) = y := ⟨_, rfl⟩
          have t_385 : 0 ≤ Int32.toInt y_384 ∧ Int32.toInt y_384 ≤ 15 := by rw [← hy_384]; exact ti_and15 _
          have t_386 : Int32.toInt y_384 ≤ 12 := by rw [← hy_384]; exact hOv_380
          try rw [hy_384]
          clear hy_384
          refine dOk_lt (A := 1) (B := Int32.toInt y_384) (by decide) rfl (fun c_387 => ?_) (fun c_388 => ?_)
          · refine dOk_le (A := 10) (B := Int32.toInt y_384) (by decide) rfl (fun c_389 => ?_) (fun c_390 => ?_)
            · obtain ⟨y_391, hy_391⟩ : ∃ y : Int32, (v_382 >>> ((4 : Int32) &&& 31) : Int32) = y := ⟨_, rfl⟩
              have t_392 : 0 ≤ Int32.toInt y_391 := by rw [← hy_391]; exact (ti_shr (by omega)).1
              try rw [hy_391]
              clear hy_391
              exact hn_316 q_8 x5_10 x6_11 x7_12 x8_13 y_384 y_391 1 a_14 ((cFr.rf : cFr [19] [(18, 1)] q_2 q_2).t a_15 (by decide) (by decide)) (show 0 ≤ Int32.toInt x5_10 by omega) (show Int32.toInt x5_10 ≤ 64 by omega) (show 0 ≤ Int32.toInt x6_11 by omega) (show Int32.toInt x6_11 < Int32.toInt x7_12 by omega) (show 0 ≤ Int32.toInt x8_13 by omega) (show Int32.toInt x8_13 < Int32.toInt x7_12 by omega) (show 0 ≤ Int32.toInt y_391 by omega) (show ((0 ≤ Int32.toInt y_384 ∧ Int32.toInt y_384 ≤ 1 ∧ (1 : Int) = 0) ∨ (2 ≤ Int32.toInt y_384 ∧ Int32.toInt y_384 ≤ 9 ∧ (1 : Int) = 2) ∨ (10 ≤ Int32.toInt y_384 ∧ Int32.toInt y_384 ≤ 12 ∧ (1 : Int) = 1)) by omega) (show Int32.toInt x7_12 ≤ 400 by omega) (show Int32.toInt x7_12 ≤ Int32.toInt (txL q_8 p1) by omega) (show Int32.toInt x8_13 = Int32.toInt x8_13 by omega) (show Int32.toInt x7_12 = Int32.toInt x7_12 by omega)
            · obtain ⟨y_393, hy_393⟩ : ∃ y : Int32, (v_382 >>> ((4 : Int32) &&& 31) : Int32) = y := ⟨_, rfl⟩
              have t_394 : 0 ≤ Int32.toInt y_393 := by rw [← hy_393]; exact (ti_shr (by omega)).1
              try rw [hy_393]
              clear hy_393
              exact hn_316 q_8 x5_10 x6_11 x7_12 x8_13 y_384 y_393 2 a_14 ((cFr.rf : cFr [19] [(18, 1)] q_2 q_2).t a_15 (by decide) (by decide)) (show 0 ≤ Int32.toInt x5_10 by omega) (show Int32.toInt x5_10 ≤ 64 by omega) (show 0 ≤ Int32.toInt x6_11 by omega) (show Int32.toInt x6_11 < Int32.toInt x7_12 by omega) (show 0 ≤ Int32.toInt x8_13 by omega) (show Int32.toInt x8_13 < Int32.toInt x7_12 by omega) (show 0 ≤ Int32.toInt y_393 by omega) (show ((0 ≤ Int32.toInt y_384 ∧ Int32.toInt y_384 ≤ 1 ∧ (2 : Int) = 0) ∨ (2 ≤ Int32.toInt y_384 ∧ Int32.toInt y_384 ≤ 9 ∧ (2 : Int) = 2) ∨ (10 ≤ Int32.toInt y_384 ∧ Int32.toInt y_384 ≤ 12 ∧ (2 : Int) = 1)) by omega) (show Int32.toInt x7_12 ≤ 400 by omega) (show Int32.toInt x7_12 ≤ Int32.toInt (txL q_8 p1) by omega) (show Int32.toInt x8_13 = Int32.toInt x8_13 by omega) (show Int32.toInt x7_12 = Int32.toInt x7_12 by omega)
          · obtain ⟨y_395, hy_395⟩ : ∃ y : Int32, (v_382 >>> ((4 : Int32) &&& 31) : Int32) = y := ⟨_, rfl⟩
            have t_396 : 0 ≤ Int32.toInt y_395 := by rw [← hy_395]; exact (ti_shr (by omega)).1
            try rw [hy_395]
            clear hy_395
            exact hn_316 q_8 x5_10 x6_11 x7_12 x8_13 y_384 y_395 0 a_14 ((cFr.rf : cFr [19] [(18, 1)] q_2 q_2).t a_15 (by decide) (by decide)) (show 0 ≤ Int32.toInt x5_10 by omega) (show Int32.toInt x5_10 ≤ 64 by omega) (show 0 ≤ Int32.toInt x6_11 by omega) (show Int32.toInt x6_11 < Int32.toInt x7_12 by omega) (show 0 ≤ Int32.toInt x8_13 by omega) (show Int32.toInt x8_13 < Int32.toInt x7_12 by omega) (show 0 ≤ Int32.toInt y_395 by omega) (show ((0 ≤ Int32.toInt y_384 ∧ Int32.toInt y_384 ≤ 1 ∧ (0 : Int) = 0) ∨ (2 ≤ Int32.toInt y_384 ∧ Int32.toInt y_384 ≤ 9 ∧ (0 : Int) = 2) ∨ (10 ≤ Int32.toInt y_384 ∧ Int32.toInt y_384 ≤ 12 ∧ (0 : Int) = 1)) by omega) (show Int32.toInt x7_12 ≤ 400 by omega) (show Int32.toInt x7_12 ≤ Int32.toInt (txL q_8 p1) by omega) (show Int32.toInt x8_13 = Int32.toInt x8_13 by omega) (show Int32.toInt x7_12 = Int32.toInt x7_12 by omega)
        · unfold zX2_valueOf_s18_l_s21_328
          refine dOk_eq (A := Int32.toInt (q_8.1 18 1)) (B := 0) rfl (by decide) (fun c_397z c_397 => ?_) (fun c_398z c_398 => ?_)
          · unfold zX2_valueOf_s18_l_s21_345
            exact dOk_some (show (TC q_8) ∧ (cFr [19] [(18, 1)] q q_8) from ⟨a_14, hFq_8⟩)
          · unfold zX2_valueOf_s18_l_s21_345
            exact dOk_some (show (TC q_8) ∧ (cFr [19] [(18, 1)] q q_8) from ⟨a_14, hFq_8⟩)
  · have f_400 : 0 ≤ Int32.toInt (txK q_2 p1) ∧ Int32.toInt (txK q_2 p1) ≤ 400 := tx_K hTq_2 g_5
    have w_401 : Int32.toInt (txK q_2 p1) = Int32.toInt (txL q_2 p1) := tx_K2 hTq_2 g_5
    have w_402 : Int32.toInt (txK q_1 p1) = Int32.toInt (txK q p1) := tx_eqK (by rw [eq_1]; rfl)
    have w_403 : Int32.toInt (txK q_2 p1) = Int32.toInt (txK q_1 p1) := tx_eqK (by rw [eq_2]; rfl)
    try have w_404 : Int32.toInt (Int32.ofNat (Int32.toNatClampNeg (txK q_2 p1))) = Int32.toInt (txK q_2 p1) := of_cl (by omega)
    have t_405 : Int32.toInt (mnI p3 (Int32.ofNat (Int32.toNatClampNeg (txK q_2 p1)))) ≤ Int32.toInt p3 ∧ Int32.toInt (mnI p3 (Int32.ofNat (Int32.toNatClampNeg (txK q_2 p1)))) ≤ Int32.toInt (Int32.ofNat (Int32.toNatClampNeg (txK q_2 p1))) ∧ (Int32.toInt (mnI p3 (Int32.ofNat (Int32.toNatClampNeg (txK q_2 p1)))) = Int32.toInt p3 ∨ Int32.toInt (mnI p3 (Int32.ofNat (Int32.toNatClampNeg (txK q_2 p1)))) = Int32.toInt (Int32.ofNat (Int32.toNatClampNeg (txK q_2 p1)))) := mn_le
    have f_406 : 0 ≤ Int32.toInt (txL q_2 p1) ∧ Int32.toInt (txL q_2 p1) ≤ 400 := tx_L hTq_2 g_5
    have w_407 : Int32.toInt (txL q_1 p1) = Int32.toInt (txL q p1) := tx_eqL (by rw [eq_1]; rfl)
    have w_408 : Int32.toInt (txL q_2 p1) = Int32.toInt (txL q_1 p1) := tx_eqL (by rw [eq_2]; rfl)
    exact (show (TC q_2) ∧ (cFr [19] [(18, 1)] q_2 q_2) ∧ (p1 = p1) ∧ (0 ≤ (0 : Int)) ∧ ((0 : Int) ≤ 64) ∧ (0 ≤ Int32.toInt p2) ∧ (0 ≤ Int32.toInt p2) ∧ (Int32.toInt (mnI p3 (Int32.ofNat (Int32.toNatClampNeg (txK q_2 p1)))) ≤ 400) ∧ (Int32.toInt (mnI p3 (Int32.ofNat (Int32.toNatClampNeg (txK q_2 p1)))) ≤ Int32.toInt (txL q_2 p1)) from ⟨hTq_2, cFr.rf, rfl, by omega, by omega, by omega, by omega, by omega, by omega⟩)
  · have f_409 : 0 ≤ Int32.toInt (txK q_2 p1) ∧ Int32.toInt (txK q_2 p1) ≤ 400 := tx_K hTq_2 g_5
    have w_410 : Int32.toInt (txK q_2 p1) = Int32.toInt (txL q_2 p1) := tx_K2 hTq_2 g_5
    have w_411 : Int32.toInt (txK q_1 p1) = Int32.toInt (txK q p1) := tx_eqK (by rw [eq_1]; rfl)
    have w_412 : Int32.toInt (txK q_2 p1) = Int32.toInt (txK q_1 p1) := tx_eqK (by rw [eq_2]; rfl)
    try have w_413 : Int32.toInt (Int32.ofNat (Int32.toNatClampNeg (txK q_2 p1))) = Int32.toInt (txK q_2 p1) := of_cl (by omega)
    have t_414 : Int32.toInt (mnI p3 (Int32.ofNat (Int32.toNatClampNeg (txK q_2 p1)))) ≤ Int32.toInt p3 ∧ Int32.toInt (mnI p3 (Int32.ofNat (Int32.toNatClampNeg (txK q_2 p1)))) ≤ Int32.toInt (Int32.ofNat (Int32.toNatClampNeg (txK q_2 p1))) ∧ (Int32.toInt (mnI p3 (Int32.ofNat (Int32.toNatClampNeg (txK q_2 p1)))) = Int32.toInt p3 ∨ Int32.toInt (mnI p3 (Int32.ofNat (Int32.toNatClampNeg (txK q_2 p1)))) = Int32.toInt (Int32.ofNat (Int32.toNatClampNeg (txK q_2 p1)))) := mn_le
    show (Int32.toInt (mnI p3 (Int32.ofNat (Int32.toNatClampNeg (txK q_2 p1)))) - Int32.toInt p2).toNat < 1000000000000
    omega
end
section
set_option maxHeartbeats 4000000 in
set_option maxRecDepth 100000 in
theorem ok_X2_valueOf_s18_s25_s23 (q : dK) (p2 : Int32) (p3 : Int32) (hT : TC q) (hp0 : 0 ≤ Int32.toInt p2) : dOk (zX2_valueOf_s18_s25_s23 q p2 p3) (fun (o : Int32 × dK) => (TC o.2) ∧ (cFr [19] [(18, 1)] q o.2)) := by
  unfold zX2_valueOf_s18_s25_s23
  refine dOk_L (fun q_1 eq_1 => ?_)
  have hTq_1 : TC q_1 := by rw [eq_1]; exact st_18_1 hT (show (0 : Int) ≤ (0 : Int) by omega) (show (0 : Int) ≤ (1 : Int) by omega)
  have hFq_1 : cFr [19] [(18, 1)] q q_1 := by rw [eq_1]; exact (cFr.rf (q := q)).f (by decide)
  refine dOk_L (fun q_2 eq_2 => ?_)
  have hTq_2 : TC q_2 := by rw [eq_2]; exact sa_19 hTq_1
  have hFq_2 : cFr [19] [(18, 1)] q q_2 := by rw [eq_2]; exact hFq_1.i (by decide)
  unfold zX2_valueOf_s18_s25_s23_32
  refine dFix_ok (fun (a : dK × Int32 × Int32 × Int32 × Int32) => (TC a.1) ∧ (cFr [19] [(18, 1)] q_2 a.1) ∧ (0 ≤ Int32.toInt a.2.1) ∧ (Int32.toInt a.2.1 ≤ 64) ∧ (0 ≤ Int32.toInt a.2.2.1) ∧ (0 ≤ Int32.toInt a.2.2.2.2) ∧ (Int32.toInt a.2.2.2.1 ≤ 400)) (fun (a : dK × Int32 × Int32 × Int32 × Int32) => (Int32.toInt a.2.2.2.1 - Int32.toInt a.2.2.2.2).toNat) ?_ _ ?_ _ (dF_gt ?_)
  · intro a ha k_4 hk_3
    obtain ⟨q_5, x5_6, x6_7, x7_8, x8_9⟩ := a
    replace ha : (TC q_5) ∧ (cFr [19] [(18, 1)] q_2 q_5) ∧ (0 ≤ Int32.toInt x5_6) ∧ (Int32.toInt x5_6 ≤ 64) ∧ (0 ≤ Int32.toInt x6_7) ∧ (0 ≤ Int32.toInt x8_9) ∧ (Int32.toInt x7_8 ≤ 400) := ha
    obtain ⟨a_10, a_11, a_12, a_13, a_14, a_15, a_16⟩ := ha
    show dOk (zX2_valueOf_s18_s25_s23_32b  (fun q x5 x6 x7 x8 => k_4 (q, x5, x6, x7, x8)) q_5 x5_6 x6_7 x7_8 x8_9) _
    unfold zX2_valueOf_s18_s25_s23_32b
    have hFq_5 : cFr [19] [(18, 1)] q q_5 := hFq_2.t a_11 (by decide) (by decide)
    have hn_22 : ∀ (q_17 : dK) (x5_18 : Int32) (x6_19 : Int32) (x7_20 : Int32) (x8_21 : Int32), TC q_17 → cFr [19] [(18, 1)] q_2 q_17 → (0 ≤ Int32.toInt x5_18) → (Int32.toInt x5_18 ≤ 64) → (0 ≤ Int32.toInt x6_19) → (0 ≤ Int32.toInt x8_21) → (Int32.toInt x8_21 < Int32.toInt x7_20) → (Int32.toInt x7_20 ≤ 400) → (Int32.toInt x8_21 = Int32.toInt x8_9) → (Int32.toInt x7_20 = Int32.toInt x7_8) → dOk (zX2_valueOf_s18_s25_s23_322 (fun q x5 x6 x7 x8 => k_4 (q, x5, x6, x7, x8)) q_17 x5_18 x6_19 x7_20 x8_21 ) (fun (o : Int32 × dK) => (TC o.2) ∧ (cFr [19] [(18, 1)] q o.2)) := by
      intro q_17 x5_18 x6_19 x7_20 x8_21 hT_31 hF_32 b_23 b_24 b_25 b_26 b_27 b_28 b_29 b_30
      unfold zX2_valueOf_s18_s25_s23_322
      have hFq_17 : cFr [19] [(18, 1)] q q_17 := hFq_2.t hF_32 (by decide) (by decide)
      obtain ⟨y_33, hy_33⟩ : ∃ y : Int32, x8_21 + 1 = y := ⟨_, rfl⟩
      have t_34 : Int32.toInt y_33 = Int32.toInt x8_21 + 1 := by rw [← hy_33]; exact ti_add rfl (by decide) (by omega) (by omega)
      rw [hy_33]
      clear hy_33
      exact hk_3 (q_17, x5_18, x6_19, x7_20, y_33) (show (TC q_17) ∧ (cFr [19] [(18, 1)] q_2 q_17) ∧ (0 ≤ Int32.toInt x5_18) ∧ (Int32.toInt x5_18 ≤ 64) ∧ (0 ≤ Int32.toInt x6_19) ∧ (0 ≤ Int32.toInt y_33) ∧ (Int32.toInt x7_20 ≤ 400) from ⟨hT_31, ((cFr.rf : cFr [19] [(18, 1)] q_2 q_2).t hF_32 (by decide) (by decide)), by omega, by omega, by omega, by omega, by omega⟩) (show (Int32.toInt x7_20 - Int32.toInt y_33).toNat < (Int32.toInt x7_8 - Int32.toInt x8_9).toNat by omega)
    have hn_40 : ∀ (q_35 : dK) (x6_36 : Int32) (x7_37 : Int32) (x8_38 : Int32) (y0_39 : Int32), TC q_35 → cFr [19] [(18, 1)] q_2 q_35 → (0 ≤ Int32.toInt y0_39) → (Int32.toInt y0_39 ≤ 64) → (0 ≤ Int32.toInt x6_36) → (0 ≤ Int32.toInt x8_38) → (Int32.toInt x8_38 < Int32.toInt x7_37) → (Int32.toInt x7_37 ≤ 400) → (Int32.toInt x8_38 = Int32.toInt x8_9) → (Int32.toInt x7_37 = Int32.toInt x7_8) → dOk (zX2_valueOf_s18_s25_s23_281 (fun q x5 x6 x7 x8 => k_4 (q, x5, x6, x7, x8)) q_35 x6_36 x7_37 x8_38 y0_39 ) (fun (o : Int32 × dK) => (TC o.2) ∧ (cFr [19] [(18, 1)] q o.2)) := by
      intro q_35 x6_36 x7_37 x8_38 y0_39 hT_49 hF_50 b_41 b_42 b_43 b_44 b_45 b_46 b_47 b_48
      unfold zX2_valueOf_s18_s25_s23_281
      have hFq_35 : cFr [19] [(18, 1)] q q_35 := hFq_2.t hF_50 (by decide) (by decide)
      exact hn_22 q_35 y0_39 x6_36 x7_37 x8_38 hT_49 ((cFr.rf : cFr [19] [(18, 1)] q_2 q_2).t hF_50 (by decide) (by decide)) (show 0 ≤ Int32.toInt y0_39 by omega) (show Int32.toInt y0_39 ≤ 64 by omega) (show 0 ≤ Int32.toInt x6_36 by omega) (show 0 ≤ Int32.toInt x8_38 by omega) (show Int32.toInt x8_38 < Int32.toInt x7_37 by omega) (show Int32.toInt x7_37 ≤ 400 by omega) (show Int32.toInt x8_38 = Int32.toInt x8_9 by omega) (show Int32.toInt x7_37 = Int32.toInt x7_8 by omega)
    have hn_57 : ∀ (q_51 : dK) (x5_52 : Int32) (x7_53 : Int32) (x8_54 : Int32) (x12_55 : Int32) (y0_56 : Int32), TC q_51 → cFr [19] [(18, 1)] q_2 q_51 → (1 ≤ Int32.toInt x5_52) → (Int32.toInt x5_52 ≤ 63) → (0 ≤ Int32.toInt y0_56) → (0 ≤ Int32.toInt x8_54) → (Int32.toInt x8_54 < Int32.toInt x7_53) → (Int32.toInt x7_53 ≤ 400) → (Int32.toInt x8_54 = Int32.toInt x8_9) → (Int32.toInt x7_53 = Int32.toInt x7_8) → dOk (zX2_valueOf_s18_s25_s23_265 (fun q x5 x6 x7 x8 => k_4 (q, x5, x6, x7, x8)) q_51 x5_52 x7_53 x8_54 x12_55 y0_56 ) (fun (o : Int32 × dK) => (TC o.2) ∧ (cFr [19] [(18, 1)] q o.2)) := by
      intro q_51 x5_52 x7_53 x8_54 x12_55 y0_56 hT_66 hF_67 b_58 b_59 b_60 b_61 b_62 b_63 b_64 b_65
      unfold zX2_valueOf_s18_s25_s23_265
      have hFq_51 : cFr [19] [(18, 1)] q q_51 := hFq_2.t hF_67 (by decide) (by decide)
      refine dOk_eq (A := Int32.toInt x12_55) (B := 0) rfl (by decide) (fun c_68z c_68 => ?_) (fun c_69z c_69 => ?_)
      · obtain ⟨y_71, hy_71⟩ : ∃ y : Int32, (x5_52 - 1 : Int32) = y := ⟨_, rfl⟩
        have t_72 : Int32.toInt y_71 = Int32.toInt x5_52 - 1 := by rw [← hy_71]; exact ti_sub rfl (by decide) (by omega) (by omega)
        try rw [hy_71]
        clear hy_71
        exact hn_40 q_51 y0_56 x7_53 x8_54 y_71 hT_66 ((cFr.rf : cFr [19] [(18, 1)] q_2 q_2).t hF_67 (by decide) (by decide)) (show 0 ≤ Int32.toInt y_71 by omega) (show Int32.toInt y_71 ≤ 64 by omega) (show 0 ≤ Int32.toInt y0_56 by omega) (show 0 ≤ Int32.toInt x8_54 by omega) (show Int32.toInt x8_54 < Int32.toInt x7_53 by omega) (show Int32.toInt x7_53 ≤ 400 by omega) (show Int32.toInt x8_54 = Int32.toInt x8_9 by omega) (show Int32.toInt x7_53 = Int32.toInt x7_8 by omega)
      · exact hn_40 q_51 y0_56 x7_53 x8_54 x5_52 hT_66 ((cFr.rf : cFr [19] [(18, 1)] q_2 q_2).t hF_67 (by decide) (by decide)) (show 0 ≤ Int32.toInt x5_52 by omega) (show Int32.toInt x5_52 ≤ 64 by omega) (show 0 ≤ Int32.toInt y0_56 by omega) (show 0 ≤ Int32.toInt x8_54 by omega) (show Int32.toInt x8_54 < Int32.toInt x7_53 by omega) (show Int32.toInt x7_53 ≤ 400 by omega) (show Int32.toInt x8_54 = Int32.toInt x8_9 by omega) (show Int32.toInt x7_53 = Int32.toInt x7_8 by omega)
    have hn_80 : ∀ (q_73 : dK) (x5_74 : Int32) (x6_75 : Int32) (x7_76 : Int32) (x8_77 : Int32) (x10_78 : Int32) (y0_79 : Int32), TC q_73 → cFr [19] [(18, 1)] q_2 q_73 → (1 ≤ Int32.toInt x5_74) → (Int32.toInt x5_74 ≤ 63) → (0 ≤ Int32.toInt x6_75) → (0 ≤ Int32.toInt x8_77) → (Int32.toInt x8_77 < Int32.toInt x7_76) → (0 ≤ Int32.toInt x10_78) → (Int32.toInt x7_76 ≤ 400) → (Int32.toInt x8_77 = Int32.toInt x8_9) → (Int32.toInt x7_76 = Int32.toInt x7_8) → dOk (zX2_valueOf_s18_s25_s23_251 (fun q x5 x6 x7 x8 => k_4 (q, x5, x6, x7, x8)) q_73 x5_74 x6_75 x7_76 x8_77 x10_78 y0_79 ) (fun (o : Int32 × dK) => (TC o.2) ∧ (cFr [19] [(18, 1)] q o.2)) := by
      intro q_73 x5_74 x6_75 x7_76 x8_77 x10_78 y0_79 hT_90 hF_91 b_81 b_82 b_83 b_84 b_85 b_86 b_87 b_88 b_89
      unfold zX2_valueOf_s18_s25_s23_251
      have hFq_73 : cFr [19] [(18, 1)] q q_73 := hFq_2.t hF_91 (by decide) (by decide)
      refine dOk_eq (A := Int32.toInt y0_79) (B := 0) rfl (by decide) (fun c_92z c_92 => ?_) (fun c_93z c_93 => ?_)
      · exact hn_57 q_73 x5_74 x7_76 x8_77 y0_79 x6_75 hT_90 ((cFr.rf : cFr [19] [(18, 1)] q_2 q_2).t hF_91 (by decide) (by decide)) (show 1 ≤ Int32.toInt x5_74 by omega) (show Int32.toInt x5_74 ≤ 63 by omega) (show 0 ≤ Int32.toInt x6_75 by omega) (show 0 ≤ Int32.toInt x8_77 by omega) (show Int32.toInt x8_77 < Int32.toInt x7_76 by omega) (show Int32.toInt x7_76 ≤ 400 by omega) (show Int32.toInt x8_77 = Int32.toInt x8_9 by omega) (show Int32.toInt x7_76 = Int32.toInt x7_8 by omega)
      · exact hn_57 q_73 x5_74 x7_76 x8_77 y0_79 x10_78 hT_90 ((cFr.rf : cFr [19] [(18, 1)] q_2 q_2).t hF_91 (by decide) (by decide)) (show 1 ≤ Int32.toInt x5_74 by omega) (show Int32.toInt x5_74 ≤ 63 by omega) (show 0 ≤ Int32.toInt x10_78 by omega) (show 0 ≤ Int32.toInt x8_77 by omega) (show Int32.toInt x8_77 < Int32.toInt x7_76 by omega) (show Int32.toInt x7_76 ≤ 400 by omega) (show Int32.toInt x8_77 = Int32.toInt x8_9 by omega) (show Int32.toInt x7_76 = Int32.toInt x7_8 by omega)
    have hn_103 : ∀ (q_95 : dK) (x5_96 : Int32) (x6_97 : Int32) (x7_98 : Int32) (x8_99 : Int32) (x10_100 : Int32) (y0_101 : Int32) (y1_102 : Int32), TC q_95 → cFr [19] [(18, 1)] q_2 q_95 → (1 ≤ Int32.toInt x5_96) → (Int32.toInt x5_96 ≤ 63) → (0 ≤ Int32.toInt x6_97) → (0 ≤ Int32.toInt x8_99) → (Int32.toInt x8_99 < Int32.toInt x7_98) → (0 ≤ Int32.toInt x10_100) → (Int32.toInt x7_98 ≤ 400) → (Int32.toInt x8_99 = Int32.toInt x8_9) → (Int32.toInt x7_98 = Int32.toInt x7_8) → dOk (zX2_valueOf_s18_s25_s23_243 (fun q x5 x6 x7 x8 => k_4 (q, x5, x6, x7, x8)) q_95 x5_96 x6_97 x7_98 x8_99 x10_100 y0_101 y1_102 ) (fun (o : Int32 × dK) => (TC o.2) ∧ (cFr [19] [(18, 1)] q o.2)) := by
      intro q_95 x5_96 x6_97 x7_98 x8_99 x10_100 y0_101 y1_102 hT_113 hF_114 b_104 b_105 b_106 b_107 b_108 b_109 b_110 b_111 b_112
      unfold zX2_valueOf_s18_s25_s23_243
      have hFq_95 : cFr [19] [(18, 1)] q q_95 := hFq_2.t hF_114 (by decide) (by decide)
      refine dOk_eq (A := Int32.toInt y1_102) (B := Int32.toInt y0_101) rfl rfl (fun c_115z c_115 => ?_) (fun c_116z c_116 => ?_)
      · exact hn_80 q_95 x5_96 x6_97 x7_98 x8_99 x10_100 1 hT_113 ((cFr.rf : cFr [19] [(18, 1)] q_2 q_2).t hF_114 (by decide) (by decide)) (show 1 ≤ Int32.toInt x5_96 by omega) (show Int32.toInt x5_96 ≤ 63 by omega) (show 0 ≤ Int32.toInt x6_97 by omega) (show 0 ≤ Int32.toInt x8_99 by omega) (show Int32.toInt x8_99 < Int32.toInt x7_98 by omega) (show 0 ≤ Int32.toInt x10_100 by omega) (show Int32.toInt x7_98 ≤ 400 by omega) (show Int32.toInt x8_99 = Int32.toInt x8_9 by omega) (show Int32.toInt x7_98 = Int32.toInt x7_8 by omega)
      · exact hn_80 q_95 x5_96 x6_97 x7_98 x8_99 x10_100 0 hT_113 ((cFr.rf : cFr [19] [(18, 1)] q_2 q_2).t hF_114 (by decide) (by decide)) (show 1 ≤ Int32.toInt x5_96 by omega) (show Int32.toInt x5_96 ≤ 63 by omega) (show 0 ≤ Int32.toInt x6_97 by omega) (show 0 ≤ Int32.toInt x8_99 by omega) (show Int32.toInt x8_99 < Int32.toInt x7_98 by omega) (show 0 ≤ Int32.toInt x10_100 by omega) (show Int32.toInt x7_98 ≤ 400 by omega) (show Int32.toInt x8_99 = Int32.toInt x8_9 by omega) (show Int32.toInt x7_98 = Int32.toInt x7_8 by omega)
    have hn_125 : ∀ (q_118 : dK) (x5_119 : Int32) (x6_120 : Int32) (x7_121 : Int32) (x8_122 : Int32) (x9_123 : Int32) (x10_124 : Int32), TC q_118 → cFr [19] [(18, 1)] q_2 q_118 → (1 ≤ Int32.toInt x5_119) → (Int32.toInt x5_119 ≤ 63) → (0 ≤ Int32.toInt x6_120) → (0 ≤ Int32.toInt x8_122) → (Int32.toInt x8_122 < Int32.toInt x7_121) → (0 ≤ Int32.toInt x10_124) → (Int32.toInt x7_121 ≤ 400) → (Int32.toInt x8_122 = Int32.toInt x8_9) → (Int32.toInt x7_121 = Int32.toInt x7_8) → dOk (zX2_valueOf_s18_s25_s23_222 (fun q x5 x6 x7 x8 => k_4 (q, x5, x6, x7, x8)) q_118 x5_119 x6_120 x7_121 x8_122 x9_123 x10_124 ) (fun (o : Int32 × dK) => (TC o.2) ∧ (cFr [19] [(18, 1)] q o.2)) := by
      intro q_118 x5_119 x6_120 x7_121 x8_122 x9_123 x10_124 hT_135 hF_136 b_126 b_127 b_128 b_129 b_130 b_131 b_132 b_133 b_134
      unfold zX2_valueOf_s18_s25_s23_222
      have hFq_118 : cFr [19] [(18, 1)] q q_118 := hFq_2.t hF_136 (by decide) (by decide)
      obtain ⟨y_137, hy_137⟩ : ∃ y : Int32, (x5_119 - 1 : Int32) = y := ⟨_, rfl⟩
      have t_138 : Int32.toInt y_137 = Int32.toInt x5_119 - 1 := by rw [← hy_137]; exact ti_sub rfl (by decide) (by omega) (by omega)
      try rw [hy_137]
      clear hy_137
      refine dOk_G (dg_ok (show 0 ≤ Int32.toInt y_137 by omega) (show Int32.toInt y_137 < ((64 : Nat) : Int) by omega)) ?_
      have n_139 : ((Int32.toNatClampNeg y_137 : Nat) : Int) = Int32.toInt y_137 := cl_eq (by omega)
      refine dOk_L (fun v_140 ev_140 => ?_)
      refine dOk_eq (A := Int32.toInt x9_123) (B := 12) rfl (by decide) (fun c_141z c_141 => ?_) (fun c_142z c_142 => ?_)
      · exact hn_103 q_118 x5_119 x6_120 x7_121 x8_122 x10_124 1 v_140 hT_135 ((cFr.rf : cFr [19] [(18, 1)] q_2 q_2).t hF_136 (by decide) (by decide)) (show 1 ≤ Int32.toInt x5_119 by omega) (show Int32.toInt x5_119 ≤ 63 by omega) (show 0 ≤ Int32.toInt x6_120 by omega) (show 0 ≤ Int32.toInt x8_122 by omega) (show Int32.toInt x8_122 < Int32.toInt x7_121 by omega) (show 0 ≤ Int32.toInt x10_124 by omega) (show Int32.toInt x7_121 ≤ 400 by omega) (show Int32.toInt x8_122 = Int32.toInt x8_9 by omega) (show Int32.toInt x7_121 = Int32.toInt x7_8 by omega)
      · exact hn_103 q_118 x5_119 x6_120 x7_121 x8_122 x10_124 0 v_140 hT_135 ((cFr.rf : cFr [19] [(18, 1)] q_2 q_2).t hF_136 (by decide) (by decide)) (show 1 ≤ Int32.toInt x5_119 by omega) (show Int32.toInt x5_119 ≤ 63 by omega) (show 0 ≤ Int32.toInt x6_120 by omega) (show 0 ≤ Int32.toInt x8_122 by omega) (show Int32.toInt x8_122 < Int32.toInt x7_121 by omega) (show 0 ≤ Int32.toInt x10_124 by omega) (show Int32.toInt x7_121 ≤ 400 by omega) (show Int32.toInt x8_122 = Int32.toInt x8_9 by omega) (show Int32.toInt x7_121 = Int32.toInt x7_8 by omega)
    have hn_151 : ∀ (q_144 : dK) (x5_145 : Int32) (x6_146 : Int32) (x7_147 : Int32) (x8_148 : Int32) (y0_149 : Int32) (y1_150 : Int32), TC q_144 → cFr [19] [(18, 1)] q_2 q_144 → (0 ≤ Int32.toInt x5_145) → (Int32.toInt x5_145 ≤ 63) → (Int32.toInt y1_150 = Int32.toInt x5_145) → (0 ≤ Int32.toInt x6_146) → (0 ≤ Int32.toInt x8_148) → (Int32.toInt x8_148 < Int32.toInt x7_147) → (Int32.toInt x7_147 ≤ 400) → (Int32.toInt x8_148 = Int32.toInt x8_9) → (Int32.toInt x7_147 = Int32.toInt x7_8) → dOk (zX2_valueOf_s18_s25_s23_171 (fun q x5 x6 x7 x8 => k_4 (q, x5, x6, x7, x8)) q_144 x5_145 x6_146 x7_147 x8_148 y0_149 y1_150 ) (fun (o : Int32 × dK) => (TC o.2) ∧ (cFr [19] [(18, 1)] q o.2)) := by
      intro q_144 x5_145 x6_146 x7_147 x8_148 y0_149 y1_150 hT_161 hF_162 b_152 b_153 b_154 b_155 b_156 b_157 b_158 b_159 b_160
      unfold zX2_valueOf_s18_s25_s23_171
      have hFq_144 : cFr [19] [(18, 1)] q q_144 := hFq_2.t hF_162 (by decide) (by decide)
      refine dOk_G (dg_ok (show 0 ≤ Int32.toInt y1_150 by omega) (show Int32.toInt y1_150 < ((64 : Nat) : Int) by omega)) ?_
      have n_163 : ((Int32.toNatClampNeg y1_150 : Nat) : Int) = Int32.toInt y1_150 := cl_eq (by omega)
      refine dOk_L (fun q_164 eq_164 => ?_)
      have hTq_164 : TC q_164 := by rw [eq_164]; exact sa_19 hT_161
      have hFq_164 : cFr [19] [(18, 1)] q q_164 := by rw [eq_164]; exact hFq_144.i (by decide)
      obtain ⟨y_165, hy_165⟩ : ∃ y : Int32, (x5_145 + 1 : Int32) = y := ⟨_, rfl⟩
      have t_166 : Int32.toInt y_165 = Int32.toInt x5_145 + 1 := by rw [← hy_165]; exact ti_add rfl (by decide) (by omega) (by omega)
      try rw [hy_165]
      clear hy_165
      exact hn_22 q_164 y_165 x6_146 x7_147 x8_148 hTq_164 (by rw [eq_164]; exact (((cFr.rf : cFr [19] [(18, 1)] q_2 q_2).t hF_162 (by decide) (by decide)) : cFr [19] [(18, 1)] q_2 q_144).i (by decide)) (show 0 ≤ Int32.toInt y_165 by omega) (show Int32.toInt y_165 ≤ 64 by omega) (show 0 ≤ Int32.toInt x6_146 by omega) (show 0 ≤ Int32.toInt x8_148 by omega) (show Int32.toInt x8_148 < Int32.toInt x7_147 by omega) (show Int32.toInt x7_147 ≤ 400 by omega) (show Int32.toInt x8_148 = Int32.toInt x8_9 by omega) (show Int32.toInt x7_147 = Int32.toInt x7_8 by omega)
    have hn_174 : ∀ (q_167 : dK) (x5_168 : Int32) (x6_169 : Int32) (x7_170 : Int32) (x8_171 : Int32) (x9_172 : Int32) (x10_173 : Int32), TC q_167 → cFr [19] [(18, 1)] q_2 q_167 → (0 ≤ Int32.toInt x5_168) → (Int32.toInt x5_168 ≤ 63) → (0 ≤ Int32.toInt x6_169) → (0 ≤ Int32.toInt x8_171) → (Int32.toInt x8_171 < Int32.toInt x7_170) → (0 ≤ Int32.toInt x10_173) → (Int32.toInt x9_172 = 0 ∨ Int32.toInt x10_173 < 17) → (Int32.toInt x7_170 ≤ 400) → (Int32.toInt x8_171 = Int32.toInt x8_9) → (Int32.toInt x7_170 = Int32.toInt x7_8) → dOk (zX2_valueOf_s18_s25_s23_150 (fun q x5 x6 x7 x8 => k_4 (q, x5, x6, x7, x8)) q_167 x5_168 x6_169 x7_170 x8_171 x9_172 x10_173 ) (fun (o : Int32 × dK) => (TC o.2) ∧ (cFr [19] [(18, 1)] q o.2)) := by
      intro q_167 x5_168 x6_169 x7_170 x8_171 x9_172 x10_173 hT_185 hF_186 b_175 b_176 b_177 b_178 b_179 b_180 b_181 b_182 b_183 b_184
      unfold zX2_valueOf_s18_s25_s23_150
      have hFq_167 : cFr [19] [(18, 1)] q q_167 := hFq_2.t hF_186 (by decide) (by decide)
      refine dOk_eq (A := Int32.toInt x9_172) (B := 0) rfl (by decide) (fun c_187z c_187 => ?_) (fun c_188z c_188 => ?_)
      · exact hn_151 q_167 x5_168 x6_169 x7_170 x8_171 x10_173 x5_168 hT_185 ((cFr.rf : cFr [19] [(18, 1)] q_2 q_2).t hF_186 (by decide) (by decide)) (show 0 ≤ Int32.toInt x5_168 by omega) (show Int32.toInt x5_168 ≤ 63 by omega) (show Int32.toInt x5_168 = Int32.toInt x5_168 by omega) (show 0 ≤ Int32.toInt x6_169 by omega) (show 0 ≤ Int32.toInt x8_171 by omega) (show Int32.toInt x8_171 < Int32.toInt x7_170 by omega) (show Int32.toInt x7_170 ≤ 400 by omega) (show Int32.toInt x8_171 = Int32.toInt x8_9 by omega) (show Int32.toInt x7_170 = Int32.toInt x7_8 by omega)
      · refine dOk_G (dg_ok (show 0 ≤ Int32.toInt x10_173 by omega) (show Int32.toInt x10_173 < ((17 : Nat) : Int) by omega)) ?_
        have n_190 : ((Int32.toNatClampNeg x10_173 : Nat) : Int) = Int32.toInt x10_173 := cl_eq (by omega)
        refine dOk_L (fun v_191 ev_191 => ?_)
        exact hn_151 q_167 x5_168 x6_169 x7_170 x8_171 v_191 x5_168 hT_185 ((cFr.rf : cFr [19] [(18, 1)] q_2 q_2).t hF_186 (by decide) (by decide)) (show 0 ≤ Int32.toInt x5_168 by omega) (show Int32.toInt x5_168 ≤ 63 by omega) (show Int32.toInt x5_168 = Int32.toInt x5_168 by omega) (show 0 ≤ Int32.toInt x6_169 by omega) (show 0 ≤ Int32.toInt x8_171 by omega) (show Int32.toInt x8_171 < Int32.toInt x7_170 by omega) (show Int32.toInt x7_170 ≤ 400 by omega) (show Int32.toInt x8_171 = Int32.toInt x8_9 by omega) (show Int32.toInt x7_170 = Int32.toInt x7_8 by omega)
    have hn_197 : ∀ (q_192 : dK) (x5_193 : Int32) (x6_194 : Int32) (x7_195 : Int32) (x8_196 : Int32), TC q_192 → cFr [19] [(18, 1)] q_2 q_192 → (0 ≤ Int32.toInt x5_193) → (Int32.toInt x5_193 ≤ 64) → (0 ≤ Int32.toInt x6_194) → (0 ≤ Int32.toInt x8_196) → (Int32.toInt x8_196 < Int32.toInt x7_195) → (Int32.toInt x7_195 ≤ 400) → (Int32.toInt x8_196 = Int32.toInt x8_9) → (Int32.toInt x7_195 = Int32.toInt x7_8) → dOk (zX2_valueOf_s18_s25_s23_131 (fun q x5 x6 x7 x8 => k_4 (q, x5, x6, x7, x8)) q_192 x5_193 x6_194 x7_195 x8_196 ) (fun (o : Int32 × dK) => (TC o.2) ∧ (cFr [19] [(18, 1)] q o.2)) := by
      intro q_192 x5_193 x6_194 x7_195 x8_196 hT_206 hF_207 b_198 b_199 b_200 b_201 b_202 b_203 b_204 b_205
      unfold zX2_valueOf_s18_s25_s23_131
      have hFq_192 : cFr [19] [(18, 1)] q q_192 := hFq_2.t hF_207 (by decide) (by decide)
      refine dOk_L (fun q_208 eq_208 => ?_)
      have hTq_208 : TC q_208 := by rw [eq_208]; exact st_18_1 hT_206 (show (0 : Int) ≤ (1 : Int) by omega) (show (1 : Int) ≤ (1 : Int) by omega)
      have hFq_208 : cFr [19] [(18, 1)] q q_208 := by rw [eq_208]; exact hFq_192.f (by decide)
      exact hn_22 q_208 x5_193 x6_194 x7_195 x8_196 hTq_208 (by rw [eq_208]; exact (((cFr.rf : cFr [19] [(18, 1)] q_2 q_2).t hF_207 (by decide) (by decide)) : cFr [19] [(18, 1)] q_2 q_192).f (by decide)) (show 0 ≤ Int32.toInt x5_193 by omega) (show Int32.toInt x5_193 ≤ 64 by omega) (show 0 ≤ Int32.toInt x6_194 by omega) (show 0 ≤ Int32.toInt x8_196 by omega) (show Int32.toInt x8_196 < Int32.toInt x7_195 by omega) (show Int32.toInt x7_195 ≤ 400 by omega) (show Int32.toInt x8_196 = Int32.toInt x8_9 by omega) (show Int32.toInt x7_195 = Int32.toInt x7_8 by omega)
    have hn_216 : ∀ (q_209 : dK) (x5_210 : Int32) (x6_211 : Int32) (x7_212 : Int32) (x8_213 : Int32) (x9_214 : Int32) (x10_215 : Int32), TC q_209 → cFr [19] [(18, 1)] q_2 q_209 → (0 ≤ Int32.toInt x5_210) → (Int32.toInt x5_210 ≤ 63) → (0 ≤ Int32.toInt x6_211) → (0 ≤ Int32.toInt x8_213) → (Int32.toInt x8_213 < Int32.toInt x7_212) → (0 ≤ Int32.toInt x10_215) → ((Int32.toInt x9_214 = 0 ∨ (Int32.toInt x9_214 = 1 ∧ Int32.toInt x10_215 < 17) ∨ (2 ≤ Int32.toInt x9_214 ∧ Int32.toInt x9_214 ≤ 9 ∧ 2 ≤ Int32.toInt x5_210) ∨ (10 ≤ Int32.toInt x9_214 ∧ Int32.toInt x9_214 ≤ 12 ∧ 1 ≤ Int32.toInt x5_210))) → (Int32.toInt x7_212 ≤ 400) → (Int32.toInt x8_213 = Int32.toInt x8_9) → (Int32.toInt x7_212 = Int32.toInt x7_8) → dOk (zX2_valueOf_s18_s25_s23_139 (fun q x5 x6 x7 x8 => k_4 (q, x5, x6, x7, x8)) q_209 x5_210 x6_211 x7_212 x8_213 x9_214 x10_215 ) (fun (o : Int32 × dK) => (TC o.2) ∧ (cFr [19] [(18, 1)] q o.2)) := by
      intro q_209 x5_210 x6_211 x7_212 x8_213 x9_214 x10_215 hT_227 hF_228 b_217 b_218 b_219 b_220 b_221 b_222 b_223 b_224 b_225 b_226
      unfold zX2_valueOf_s18_s25_s23_139
      have hFq_209 : cFr [19] [(18, 1)] q q_209 := hFq_2.t hF_228 (by decide) (by decide)
      refine dOk_eq (A := Int32.toInt x9_214) (B := 0) rfl (by decide) (fun c_229z c_229 => ?_) (fun c_230z c_230 => ?_)
      · exact hn_174 q_209 x5_210 x6_211 x7_212 x8_213 x9_214 x10_215 hT_227 ((cFr.rf : cFr [19] [(18, 1)] q_2 q_2).t hF_228 (by decide) (by decide)) (show 0 ≤ Int32.toInt x5_210 by omega) (show Int32.toInt x5_210 ≤ 63 by omega) (show 0 ≤ Int32.toInt x6_211 by omega) (show 0 ≤ Int32.toInt x8_213 by omega) (show Int32.toInt x8_213 < Int32.toInt x7_212 by omega) (show 0 ≤ Int32.toInt x10_215 by omega) (show Int32.toInt x9_214 = 0 ∨ Int32.toInt x10_215 < 17 by omega) (show Int32.toInt x7_212 ≤ 400 by omega) (show Int32.toInt x8_213 = Int32.toInt x8_9 by omega) (show Int32.toInt x7_212 = Int32.toInt x7_8 by omega)
      · refine dOk_eq (A := Int32.toInt x9_214) (B := 1) rfl (by decide) (fun c_232z c_232 => ?_) (fun c_233z c_233 => ?_)
        · exact hn_174 q_209 x5_210 x6_211 x7_212 x8_213 x9_214 x10_215 hT_227 ((cFr.rf : cFr [19] [(18, 1)] q_2 q_2).t hF_228 (by decide) (by decide)) (show 0 ≤ Int32.toInt x5_210 by omega) (show Int32.toInt x5_210 ≤ 63 by omega) (show 0 ≤ Int32.toInt x6_211 by omega) (show 0 ≤ Int32.toInt x8_213 by omega) (show Int32.toInt x8_213 < Int32.toInt x7_212 by omega) (show 0 ≤ Int32.toInt x10_215 by omega) (show Int32.toInt x9_214 = 0 ∨ Int32.toInt x10_215 < 17 by omega) (show Int32.toInt x7_212 ≤ 400 by omega) (show Int32.toInt x8_213 = Int32.toInt x8_9 by omega) (show Int32.toInt x7_212 = Int32.toInt x7_8 by omega)
        · refine dOk_eq (A := Int32.toInt x9_214) (B := 10) rfl (by decide) (fun c_235z c_235 => ?_) (fun c_236z c_236 => ?_)
          · obtain ⟨y_238, hy_238⟩ : ∃ y : Int32, (x5_210 - 1 : Int32) = y := ⟨_, rfl⟩
            have t_239 : Int32.toInt y_238 = Int32.toInt x5_210 - 1 := by rw [← hy_238]; exact ti_sub rfl (by decide) (by omega) (by omega)
            try rw [hy_238]
            clear hy_238
            refine dOk_G (dg_ok (show 0 ≤ Int32.toInt y_238 by omega) (show Int32.toInt y_238 < ((64 : Nat) : Int) by omega)) ?_
            have n_240 : ((Int32.toNatClampNeg y_238 : Nat) : Int) = Int32.toInt y_238 := cl_eq (by omega)
            refine dOk_L (fun v_241 ev_241 => ?_)
            refine dOk_G (dg_ok (show 0 ≤ Int32.toInt y_238 by omega) (show Int32.toInt y_238 < ((64 : Nat) : Int) by omega)) ?_
            refine dOk_L (fun q_242 eq_242 => ?_)
            have hTq_242 : TC q_242 := by rw [eq_242]; exact sa_19 hT_227
            have hFq_242 : cFr [19] [(18, 1)] q q_242 := by rw [eq_242]; exact hFq_209.i (by decide)
            exact hn_22 q_242 x5_210 x6_211 x7_212 x8_213 hTq_242 (by rw [eq_242]; exact (((cFr.rf : cFr [19] [(18, 1)] q_2 q_2).t hF_228 (by decide) (by decide)) : cFr [19] [(18, 1)] q_2 q_209).i (by decide)) (show 0 ≤ Int32.toInt x5_210 by omega) (show Int32.toInt x5_210 ≤ 64 by omega) (show 0 ≤ Int32.toInt x6_211 by omega) (show 0 ≤ Int32.toInt x8_213 by omega) (show Int32.toInt x8_213 < Int32.toInt x7_212 by omega) (show Int32.toInt x7_212 ≤ 400 by omega) (show Int32.toInt x8_213 = Int32.toInt x8_9 by omega) (show Int32.toInt x7_212 = Int32.toInt x7_8 by omega)
          · refine dOk_eq (A := Int32.toInt x9_214) (B := 11) rfl (by decide) (fun c_243z c_243 => ?_) (fun c_244z c_244 => ?_)
            · exact hn_125 q_209 x5_210 x6_211 x7_212 x8_213 x9_214 x10_215 hT_227 ((cFr.rf : cFr [19] [(18, 1)] q_2 q_2).t hF_228 (by decide) (by decide)) (show 1 ≤ Int32.toInt x5_210 by omega) (show Int32.toInt x5_210 ≤ 63 by omega) (show 0 ≤ Int32.toInt x6_211 by omega) (show 0 ≤ Int32.toInt x8_213 by omega) (show Int32.toInt x8_213 < Int32.toInt x7_212 by omega) (show 0 ≤ Int32.toInt x10_215 by omega) (show Int32.toInt x7_212 ≤ 400 by omega) (show Int32.toInt x8_213 = Int32.toInt x8_9 by omega) (show Int32.toInt x7_212 = Int32.toInt x7_8 by omega)
            · refine dOk_eq (A := Int32.toInt x9_214) (B := 12) rfl (by decide) (fun c_246z c_246 => ?_) (fun c_247z c_247 => ?_)
              · exact hn_125 q_209 x5_210 x6_211 x7_212 x8_213 x9_214 x10_215 hT_227 ((cFr.rf : cFr [19] [(18, 1)] q_2 q_2).t hF_228 (by decide) (by decide)) (show 1 ≤ Int32.toInt x5_210 by omega) (show Int32.toInt x5_210 ≤ 63 by omega) (show 0 ≤ Int32.toInt x6_211 by omega) (show 0 ≤ Int32.toInt x8_213 by omega) (show Int32.toInt x8_213 < Int32.toInt x7_212 by omega) (show 0 ≤ Int32.toInt x10_215 by omega) (show Int32.toInt x7_212 ≤ 400 by omega) (show Int32.toInt x8_213 = Int32.toInt x8_9 by omega) (show Int32.toInt x7_212 = Int32.toInt x7_8 by omega)
              · obtain ⟨y_249, hy_249⟩ : ∃ y : Int32, (x5_210 + (-1) : Int32) = y := ⟨_, rfl⟩
                have t_250 : Int32.toInt y_249 = Int32.toInt x5_210 + (-1) := by rw [← hy_249]; exact ti_add rfl (by decide) (by omega) (by omega)
                try rw [hy_249]
                clear hy_249
                obtain ⟨y_251, hy_251⟩ : ∃ y : Int32, (y_249 - 1 : Int32) = y := ⟨_, rfl⟩
                have t_252 : Int32.toInt y_251 = Int32.toInt y_249 - 1 := by rw [← hy_251]; exact ti_sub rfl (by decide) (by omega) (by omega)
                try rw [hy_251]
                clear hy_251
                refine dOk_G (dg_ok (show 0 ≤ Int32.toInt y_251 by omega) (show Int32.toInt y_251 < ((64 : Nat) : Int) by omega)) ?_
                have n_253 : ((Int32.toNatClampNeg y_251 : Nat) : Int) = Int32.toInt y_251 := cl_eq (by omega)
                refine dOk_L (fun v_254 ev_254 => ?_)
                refine dOk_G (dg_ok (show 0 ≤ Int32.toInt y_249 by omega) (show Int32.toInt y_249 < ((64 : Nat) : Int) by omega)) ?_
                have n_255 : ((Int32.toNatClampNeg y_249 : Nat) : Int) = Int32.toInt y_249 := cl_eq (by omega)
                refine dOk_L (fun v_256 ev_256 => ?_)
                refine dOk_B (ok_X2_join_s18 q_209 x9_214 (Int32.toInt64 v_254) (Int32.toInt64 v_256) hT_227) (fun r_257 q_258 h_259 => ?_)
                replace h_259 : (TC q_258) ∧ (cFr [] [(18, 1)] q_209 q_258) := h_259
                obtain ⟨i_260, i_261⟩ := h_259
                have hFq_258 : cFr [19] [(18, 1)] q q_258 := hFq_209.t i_261 (by decide) (by decide)
                refine dOk_G (dg_ok (show 0 ≤ Int32.toInt y_251 by omega) (show Int32.toInt y_251 < ((64 : Nat) : Int) by omega)) ?_
                refine dOk_L (fun q_262 eq_262 => ?_)
                have hTq_262 : TC q_262 := by rw [eq_262]; exact sa_19 i_260
                have hFq_262 : cFr [19] [(18, 1)] q q_262 := by rw [eq_262]; exact hFq_258.i (by decide)
                exact hn_22 q_262 y_249 x6_211 x7_212 x8_213 hTq_262 (by rw [eq_262]; exact (((((cFr.rf : cFr [19] [(18, 1)] q_2 q_2).t hF_228 (by decide) (by decide)) : cFr [19] [(18, 1)] q_2 q_209).t i_261 (by decide) (by decide)) : cFr [19] [(18, 1)] q_2 q_258).i (by decide)) (show 0 ≤ Int32.toInt y_249 by omega) (show Int32.toInt y_249 ≤ 64 by omega) (show 0 ≤ Int32.toInt x6_211 by omega) (show 0 ≤ Int32.toInt x8_213 by omega) (show Int32.toInt x8_213 < Int32.toInt x7_212 by omega) (show Int32.toInt x7_212 ≤ 400 by omega) (show Int32.toInt x8_213 = Int32.toInt x8_9 by omega) (show Int32.toInt x7_212 = Int32.toInt x7_8 by omega)
    have hn_271 : ∀ (q_263 : dK) (x5_264 : Int32) (x6_265 : Int32) (x7_266 : Int32) (x8_267 : Int32) (x9_268 : Int32) (x10_269 : Int32) (y0_270 : Int32), TC q_263 → cFr [19] [(18, 1)] q_2 q_263 → (0 ≤ Int32.toInt x5_264) → (Int32.toInt x5_264 ≤ 64) → (0 ≤ Int32.toInt x6_265) → (Int32.toInt x6_265 < Int32.toInt x7_266) → (0 ≤ Int32.toInt x8_267) → (Int32.toInt x8_267 < Int32.toInt x7_266) → (0 ≤ Int32.toInt x10_269) → (((0 ≤ Int32.toInt x9_268 ∧ Int32.toInt x9_268 ≤ 1 ∧ Int32.toInt y0_270 = 0) ∨ (2 ≤ Int32.toInt x9_268 ∧ Int32.toInt x9_268 ≤ 9 ∧ Int32.toInt y0_270 = 2) ∨ (10 ≤ Int32.toInt x9_268 ∧ Int32.toInt x9_268 ≤ 12 ∧ Int32.toInt y0_270 = 1))) → (Int32.toInt x7_266 ≤ 400) → (Int32.toInt x8_267 = Int32.toInt x8_9) → (Int32.toInt x7_266 = Int32.toInt x7_8) → dOk (zX2_valueOf_s18_s25_s23_98 (fun q x5 x6 x7 x8 => k_4 (q, x5, x6, x7, x8)) q_263 x5_264 x6_265 x7_266 x8_267 x9_268 x10_269 y0_270 ) (fun (o : Int32 × dK) => (TC o.2) ∧ (cFr [19] [(18, 1)] q o.2)) := by
      intro q_263 x5_264 x6_265 x7_266 x8_267 x9_268 x10_269 y0_270 hT_283 hF_284 b_272 b_273 b_274 b_275 b_276 b_277 b_278 b_279 b_280 b_281 b_282
      unfold zX2_valueOf_s18_s25_s23_98
      have hFq_263 : cFr [19] [(18, 1)] q q_263 := hFq_2.t hF_284 (by decide) (by decide)
      refine dOk_lt (A := Int32.toInt x5_264) (B := Int32.toInt y0_270) rfl rfl (fun c_285 => ?_) (fun c_286 => ?_)
      · obtain ⟨y_287, hy_287⟩ : ∃ y : Int32, (x6_265 + 1 : Int32) = y := ⟨_, rfl⟩
        have t_288 : Int32.toInt y_287 = Int32.toInt x6_265 + 1 := by rw [← hy_287]; exact ti_add rfl (by decide) (by omega) (by omega)
        try rw [hy_287]
        clear hy_287
        exact hn_197 q_263 x5_264 y_287 x7_266 x8_267 hT_283 ((cFr.rf : cFr [19] [(18, 1)] q_2 q_2).t hF_284 (by decide) (by decide)) (show 0 ≤ Int32.toInt x5_264 by omega) (show Int32.toInt x5_264 ≤ 64 by omega) (show 0 ≤ Int32.toInt y_287 by omega) (show 0 ≤ Int32.toInt x8_267 by omega) (show Int32.toInt x8_267 < Int32.toInt x7_266 by omega) (show Int32.toInt x7_266 ≤ 400 by omega) (show Int32.toInt x8_267 = Int32.toInt x8_9 by omega) (show Int32.toInt x7_266 = Int32.toInt x7_8 by omega)
      · refine dOk_le (A := 64) (B := Int32.toInt x5_264) (by decide) rfl (fun c_289 => ?_) (fun c_290 => ?_)
        · obtain ⟨y_291, hy_291⟩ : ∃ y : Int32, (x6_265 + 1 : Int32) = y := ⟨_, rfl⟩
          have t_292 : Int32.toInt y_291 = Int32.toInt x6_265 + 1 := by rw [← hy_291]; exact ti_add rfl (by decide) (by omega) (by omega)
          try rw [hy_291]
          clear hy_291
          exact hn_197 q_263 x5_264 y_291 x7_266 x8_267 hT_283 ((cFr.rf : cFr [19] [(18, 1)] q_2 q_2).t hF_284 (by decide) (by decide)) (show 0 ≤ Int32.toInt x5_264 by omega) (show Int32.toInt x5_264 ≤ 64 by omega) (show 0 ≤ Int32.toInt y_291 by omega) (show 0 ≤ Int32.toInt x8_267 by omega) (show Int32.toInt x8_267 < Int32.toInt x7_266 by omega) (show Int32.toInt x7_266 ≤ 400 by omega) (show Int32.toInt x8_267 = Int32.toInt x8_9 by omega) (show Int32.toInt x7_266 = Int32.toInt x7_8 by omega)
        · refine dOk_eq (A := Int32.toInt x9_268) (B := 1) rfl (by decide) (fun c_293z c_293 => ?_) (fun c_294z c_294 => ?_)
          · refine dOk_lt (A := Int32.toInt x10_269) (B := 17) rfl (by decide) (fun c_296 => ?_) (fun c_297 => ?_)
            · obtain ⟨y_298, hy_298⟩ : ∃ y : Int32, (x6_265 + 1 : Int32) = y := ⟨_, rfl⟩
              have t_299 : Int32.toInt y_298 = Int32.toInt x6_265 + 1 := by rw [← hy_298]; exact ti_add rfl (by decide) (by omega) (by omega)
              try rw [hy_298]
              clear hy_298
              exact hn_216 q_263 x5_264 y_298 x7_266 x8_267 x9_268 x10_269 hT_283 ((cFr.rf : cFr [19] [(18, 1)] q_2 q_2).t hF_284 (by decide) (by decide)) (show 0 ≤ Int32.toInt x5_264 by omega) (show Int32.toInt x5_264 ≤ 63 by omega) (show 0 ≤ Int32.toInt y_298 by omega) (show 0 ≤ Int32.toInt x8_267 by omega) (show Int32.toInt x8_267 < Int32.toInt x7_266 by omega) (show 0 ≤ Int32.toInt x10_269 by omega) (show (Int32.toInt x9_268 = 0 ∨ (Int32.toInt x9_268 = 1 ∧ Int32.toInt x10_269 < 17) ∨ (2 ≤ Int32.toInt x9_268 ∧ Int32.toInt x9_268 ≤ 9 ∧ 2 ≤ Int32.toInt x5_264) ∨ (10 ≤ Int32.toInt x9_268 ∧ Int32.toInt x9_268 ≤ 12 ∧ 1 ≤ Int32.toInt x5_264)) by omega) (show Int32.toInt x7_266 ≤ 400 by omega) (show Int32.toInt x8_267 = Int32.toInt x8_9 by omega) (show Int32.toInt x7_266 = Int32.toInt x7_8 by omega)
            · obtain ⟨y_300, hy_300⟩ : ∃ y : Int32, (x6_265 + 1 : Int32) = y := ⟨_, rfl⟩
              have t_301 : Int32.toInt y_300 = Int32.toInt x6_265 + 1 := by rw [← hy_300]; exact ti_add rfl (by decide) (by omega) (by omega)
              try rw [hy_300]
              clear hy_300
              exact hn_197 q_263 x5_264 y_300 x7_266 x8_267 hT_283 ((cFr.rf : cFr [19] [(18, 1)] q_2 q_2).t hF_284 (by decide) (by decide)) (show 0 ≤ Int32.toInt x5_264 by omega) (show Int32.toInt x5_264 ≤ 64 by omega) (show 0 ≤ Int32.toInt y_300 by omega) (show 0 ≤ Int32.toInt x8_267 by omega) (show Int32.toInt x8_267 < Int32.toInt x7_266 by omega) (show Int32.toInt x7_266 ≤ 400 by omega) (show Int32.toInt x8_267 = Int32.toInt x8_9 by omega) (show Int32.toInt x7_266 = Int32.toInt x7_8 by omega)
          · obtain ⟨y_302, hy_302⟩ : ∃ y : Int32, (x6_265 + 1 : Int32) = y := ⟨_, rfl⟩
            have t_303 : Int32.toInt y_302 = Int32.toInt x6_265 + 1 := by rw [← hy_302]; exact ti_add rfl (by decide) (by omega) (by omega)
            try rw [hy_302]
            clear hy_302
            exact hn_216 q_263 x5_264 y_302 x7_266 x8_267 x9_268 x10_269 hT_283 ((cFr.rf : cFr [19] [(18, 1)] q_2 q_2).t hF_284 (by decide) (by decide)) (show 0 ≤ Int32.toInt x5_264 by omega) (show Int32.toInt x5_264 ≤ 63 by omega) (show 0 ≤ Int32.toInt y_302 by omega) (show 0 ≤ Int32.toInt x8_267 by omega) (show Int32.toInt x8_267 < Int32.toInt x7_266 by omega) (show 0 ≤ Int32.toInt x10_269 by omega) (show (Int32.toInt x9_268 = 0 ∨ (Int32.toInt x9_268 = 1 ∧ Int32.toInt x10_269 < 17) ∨ (2 ≤ Int32.toInt x9_268 ∧ Int32.toInt x9_268 ≤ 9 ∧ 2 ≤ Int32.toInt x5_264) ∨ (10 ≤ Int32.toInt x9_268 ∧ Int32.toInt x9_268 ≤ 12 ∧ 1 ≤ Int32.toInt x5_264)) by omega) (show Int32.toInt x7_266 ≤ 400 by omega) (show Int32.toInt x8_267 = Int32.toInt x8_9 by omega) (show Int32.toInt x7_266 = Int32.toInt x7_8 by omega)
    refine dOk_le (A := Int32.toInt x7_8) (B := Int32.toInt x8_9) rfl rfl (fun c_304 => ?_) (fun c_305 => ?_)
    · unfold zX2_valueOf_s18_s25_s23_328
      have f_306 : 0 ≤ Int32.toInt (q_5.1 18 1) ∧ Int32.toInt (q_5.1 18 1) ≤ 1 := rg_18_1 a_10
      refine dOk_eq (A := Int32.toInt (q_5.1 18 1)) (B := 0) rfl (by decide) (fun c_307z c_307 => ?_) (fun c_308z c_308 => ?_)
      · unfold zX2_valueOf_s18_s25_s23_345
        exact dOk_some (show (TC q_5) ∧ (cFr [19] [(18, 1)] q q_5) from ⟨a_10, hFq_5⟩)
      · unfold zX2_valueOf_s18_s25_s23_345
        exact dOk_some (show (TC q_5) ∧ (cFr [19] [(18, 1)] q q_5) from ⟨a_10, hFq_5⟩)
    · refine dOk_le (A := Int32.toInt x7_8) (B := Int32.toInt x6_7) rfl rfl (fun c_310 => ?_) (fun c_311 => ?_)
      · unfold zX2_valueOf_s18_s25_s23_328
        have f_312 : 0 ≤ Int32.toInt (q_5.1 18 1) ∧ Int32.toInt (q_5.1 18 1) ≤ 1 := rg_18_1 a_10
        refine dOk_eq (A := Int32.toInt (q_5.1 18 1)) (B := 0) rfl (by decide) (fun c_313z c_313 => ?_) (fun c_314z c_314 => ?_)
        · unfold zX2_valueOf_s18_s25_s23_345
          exact dOk_some (show (TC q_5) ∧ (cFr [19] [(18, 1)] q q_5) from ⟨a_10, hFq_5⟩)
        · unfold zX2_valueOf_s18_s25_s23_345
          exact dOk_some (show (TC q_5) ∧ (cFr [19] [(18, 1)] q q_5) from ⟨a_10, hFq_5⟩)
      · have f_316 : 0 ≤ Int32.toInt (q_5.1 18 1) ∧ Int32.toInt (q_5.1 18 1) ≤ 1 := rg_18_1 a_10
        refine dOk_eq (A := Int32.toInt (q_5.1 18 1)) (B := 0) rfl (by decide) (fun c_317z c_317 => ?_) (fun c_318z c_318 => ?_)
        · refine dOk_G (dg_ok (show 0 ≤ Int32.toInt x6_7 by omega) (show Int32.toInt x6_7 < ((400 : Nat) : Int) by omega)) ?_
          have n_320 : ((Int32.toNatClampNeg x6_7 : Nat) : Int) = Int32.toInt x6_7 := cl_eq (by omega)
          refine dOk_L (fun v_321 ev_321 => ?_)
          have f_322 : 0 ≤ Int32.toInt v_321 ∧ Int32.toInt v_321 ≤ 2147483647 := by rw [ev_321]; exact rg_31 a_10 _
          have hOv_321 : cOp v_321 := by rw [ev_321]; exact (a_10.2.1.2 _).2.2.2.1
          refine dOk_G (dg_ok (show 0 ≤ Int32.toInt x6_7 by omega) (show Int32.toInt x6_7 < ((400 : Nat) : Int) by omega)) ?_
          refine dOk_L (fun v_323 ev_323 => ?_)
          have w_324 : Int32.toInt v_323 = Int32.toInt v_321 := by rw [ev_323, ev_321]
          have f_325 : 0 ≤ Int32.toInt v_323 ∧ Int32.toInt v_323 ≤ 2147483647 := by rw [ev_323]; exact rg_31 a_10 _
          have hOv_323 : cOp v_323 := by rw [ev_323]; exact (a_10.2.1.2 _).2.2.2.1
          obtain ⟨y_326, hy_326⟩ : ∃ y : Int32, (v_321 &&& 15 : Int32) = y := ⟨_, rfl⟩
          have t_327 : 0 ≤ Int32.toInt y_326 ∧ Int32.toInt y_326 ≤ 15 := by rw [← hy_326]; exact ti_and15 _
          have t_328 : Int32.toInt y_326 ≤ 12 := by rw [← hy_326]; exact hOv_321
          try rw [hy_326]
          clear hy_326
          refine dOk_lt (A := 1) (B := Int32.toInt y_326) (by decide) rfl (fun c_329 => ?_) (fun c_330 => ?_)
          · refine dOk_le (A := 10) (B := Int32.toInt y_326) (by decide) rfl (fun c_331 => ?_) (fun c_332 => ?_)
            · obtain ⟨y_333, hy_333⟩ : ∃ y : Int32, (v_323 >>> ((4 : Int32) &&& 31) : Int32) = y := ⟨_, rfl⟩
              have t_334 : 0 ≤ Int32.toInt y_333 := by rw [← hy_333]; exact (ti_shr (by omega)).1
              try rw [hy_333]
              clear hy_333
              exact hn_271 q_5 x5_6 x6_7 x7_8 x8_9 y_326 y_333 1 a_10 ((cFr.rf : cFr [19] [(18, 1)] q_2 q_2).t a_11 (by decide) (by decide)) (show 0 ≤ Int32.toInt x5_6 by omega) (show Int32.toInt x5_6 ≤ 64 by omega) (show 0 ≤ Int32.toInt x6_7 by omega) (show Int32.toInt x6_7 < Int32.toInt x7_8 by omega) (show 0 ≤ Int32.toInt x8_9 by omega) (show Int32.toInt x8_9 < Int32.toInt x7_8 by omega) (show 0 ≤ Int32.toInt y_333 by omega) (show ((0 ≤ Int32.toInt y_326 ∧ Int32.toInt y_326 ≤ 1 ∧ (1 : Int) = 0) ∨ (2 ≤ Int32.toInt y_326 ∧ Int32.toInt y_326 ≤ 9 ∧ (1 : Int) = 2) ∨ (10 ≤ Int32.toInt y_326 ∧ Int32.toInt y_326 ≤ 12 ∧ (1 : Int) = 1)) by omega) (show Int32.toInt x7_8 ≤ 400 by omega) (show Int32.toInt x8_9 = Int32.toInt x8_9 by omega) (show Int32.toInt x7_8 = Int32.toInt x7_8 by omega)
            · obtain ⟨y_335, hy_335⟩ : ∃ y : Int32, (v_323 >>> ((4 : Int32) &&& 31) : Int32) = y := ⟨_, rfl⟩
              have t_336 : 0 ≤ Int32.toInt y_335 := by rw [← hy_335]; exact (ti_shr (by omega)).1
              try rw [hy_335]
              clear hy_335
              exact hn_271 q_5 x5_6 x6_7 x7_8 x8_9 y_326 y_335 2 a_10 ((cFr.rf : cFr [19] [(18, 1)] q_2 q_2).t a_11 (by decide) (by decide)) (show 0 ≤ Int32.toInt x5_6 by omega) (show Int32.toInt x5_6 ≤ 64 by omega) (show 0 ≤ Int32.toInt x6_7 by omega) (show Int32.toInt x6_7 < Int32.toInt x7_8 by omega) (show 0 ≤ Int32.toInt x8_9 by omega) (show Int32.toInt x8_9 < Int32.toInt x7_8 by omega) (show 0 ≤ Int32.toInt y_335 by omega) (show ((0 ≤ Int32.toInt y_326 ∧ Int32.toInt y_326 ≤ 1 ∧ (2 : Int) = 0) ∨ (2 ≤ Int32.toInt y_326 ∧ Int32.toInt y_326 ≤ 9 ∧ (2 : Int) = 2) ∨ (10 ≤ Int32.toInt y_326 ∧ Int32.toInt y_326 ≤ 12 ∧ (2 : Int) = 1)) by omega) (show Int32.toInt x7_8 ≤ 400 by omega) (show Int32.toInt x8_9 = Int32.toInt x8_9 by omega) (show Int32.toInt x7_8 = Int32.toInt x7_8 by omega)
          · obtain ⟨y_337, hy_337⟩ : ∃ y : Int32, (v_323 >>> ((4 : Int32) &&& 31) : Int32) = y := ⟨_, rfl⟩
            have t_338 : 0 ≤ Int32.toInt y_337 := by rw [← hy_337]; exact (ti_shr (by omega)).1
            try rw [hy_337]
            clear hy_337
            exact hn_271 q_5 x5_6 x6_7 x7_8 x8_9 y_326 y_337 0 a_10 ((cFr.rf : cFr [19] [(18, 1)] q_2 q_2).t a_11 (by decide) (by decide)) (show 0 ≤ Int32.toInt x5_6 by omega) (show Int32.toInt x5_6 ≤ 64 by omega) (show 0 ≤ Int32.toInt x6_7 by omega) (show Int32.toInt x6_7 < Int32.toInt x7_8 by omega) (show 0 ≤ Int32.toInt x8_9 by omega) (show Int32.toInt x8_9 < Int32.toInt x7_8 by omega) (show 0 ≤ Int32.toInt y_337 by omega) (show ((0 ≤ Int32.toInt y_326 ∧ Int32.toInt y_326 ≤ 1 ∧ (0 : Int) = 0) ∨ (2 ≤ Int32.toInt y_326 ∧ Int32.toInt y_326 ≤ 9 ∧ (0 : Int) = 2) ∨ (10 ≤ Int32.toInt y_326 ∧ Int32.toInt y_326 ≤ 12 ∧ (0 : Int) = 1)) by omega) (show Int32.toInt x7_8 ≤ 400 by omega) (show Int32.toInt x8_9 = Int32.toInt x8_9 by omega) (show Int32.toInt x7_8 = Int32.toInt x7_8 by omega)
        · unfold zX2_valueOf_s18_s25_s23_328
          refine dOk_eq (A := Int32.toInt (q_5.1 18 1)) (B := 0) rfl (by decide) (fun c_339z c_339 => ?_) (fun c_340z c_340 => ?_)
          · unfold zX2_valueOf_s18_s25_s23_345
            exact dOk_some (show (TC q_5) ∧ (cFr [19] [(18, 1)] q q_5) from ⟨a_10, hFq_5⟩)
          · unfold zX2_valueOf_s18_s25_s23_345
            exact dOk_some (show (TC q_5) ∧ (cFr [19] [(18, 1)] q q_5) from ⟨a_10, hFq_5⟩)
  · have t_342 : Int32.toInt (mnI p3 400) ≤ Int32.toInt p3 ∧ Int32.toInt (mnI p3 400) ≤ 400 ∧ (Int32.toInt (mnI p3 400) = Int32.toInt p3 ∨ Int32.toInt (mnI p3 400) = 400) := mn_le
    exact (show (TC q_2) ∧ (cFr [19] [(18, 1)] q_2 q_2) ∧ (0 ≤ (0 : Int)) ∧ ((0 : Int) ≤ 64) ∧ (0 ≤ Int32.toInt p2) ∧ (0 ≤ Int32.toInt p2) ∧ (Int32.toInt (mnI p3 400) ≤ 400) from ⟨hTq_2, cFr.rf, by omega, by omega, by omega, by omega, by omega⟩)
  · have t_343 : Int32.toInt (mnI p3 400) ≤ Int32.toInt p3 ∧ Int32.toInt (mnI p3 400) ≤ 400 ∧ (Int32.toInt (mnI p3 400) = Int32.toInt p3 ∨ Int32.toInt (mnI p3 400) = 400) := mn_le
    show (Int32.toInt (mnI p3 400) - Int32.toInt p2).toNat < 1000000000000
    omega
end
section
set_option maxHeartbeats 4000000 in
set_option maxRecDepth 100000 in
theorem ok_X1_anyHolds_s20 (q : dK) (p1 : Int32) (hT : TC q) : dOk (zX1_anyHolds_s20 q p1) (fun (o : Int32 × dK) => (TC o.2) ∧ (cFr [19] [(18, 1)] q o.2) ∧ ((Int32.toInt o.1 = 0 ∨ Int32.toInt o.1 = 1))) := by
  unfold zX1_anyHolds_s20
  have f_1 : 0 ≤ Int32.toInt (q.1 20 2) ∧ Int32.toInt (q.1 20 2) ≤ 2147483647 := rg_20_2 hT
  have k_2 : Int32.toInt (q.1 20 2) ≤ (q.2.2.length : Int) := hT.2.1.1
  refine dOk_eq (A := Int32.toInt (q.1 20 2)) (B := 0) rfl (by decide) (fun c_3z c_3 => ?_) (fun c_4z c_4 => ?_)
  · exact dOk_some (show (TC q) ∧ (cFr [19] [(18, 1)] q q) ∧ (((0 : Int) = 0 ∨ (0 : Int) = 1)) from ⟨hT, (cFr.rf (q := q)), by omega⟩)
  · unfold zX1_anyHolds_s20_11
    refine dFix_ok (fun (a : dK × Int32 × Int32) => (TC a.1) ∧ (cFr [19] [(18, 1)] q a.1) ∧ (a.2.1 = p1) ∧ (0 ≤ Int32.toInt a.2.2) ∧ (Int32.toInt a.2.2 ≤ 12)) (fun (a : dK × Int32 × Int32) => (12 - Int32.toInt a.2.2).toNat) ?_ _ ?_ _ (dF_gt ?_)
    · intro a ha k_7 hk_6
      obtain ⟨q_8, x1_9, x2_10⟩ := a
      replace ha : (TC q_8) ∧ (cFr [19] [(18, 1)] q q_8) ∧ (x1_9 = p1) ∧ (0 ≤ Int32.toInt x2_10) ∧ (Int32.toInt x2_10 ≤ 12) := ha
      obtain ⟨a_11, a_12, a_13, a_14, a_15⟩ := ha
      show dOk (zX1_anyHolds_s20_11b  (fun q x1 x2 => k_7 (q, x1, x2)) q_8 x1_9 x2_10) _
      unfold zX1_anyHolds_s20_11b
      simp only [txC_r, txL_r, txN_r, txK_r, txR_r]
      have hFq_8 : cFr [19] [(18, 1)] q q_8 := (cFr.rf (q := q)).t a_12 (by decide) (by decide)
      subst x1_9
      have f_16 : 0 ≤ Int32.toInt (q_8.1 20 2) ∧ Int32.toInt (q_8.1 20 2) ≤ 2147483647 := rg_20_2 a_11
      have n_17 : q_8.2.2.length = q.2.2.length := (congrArg List.length a_12.2)
      have k_18 : Int32.toInt (q_8.1 20 2) ≤ (q_8.2.2.length : Int) := a_11.2.1.1
      have w_19 : Int32.toInt (q_8.1 20 2) = Int32.toInt (q.1 20 2) := by rw [a_12.1 20 2 (by decide) (by decide)]
      have g_20 : dlg q_8 (q_8.1 20 2) = true := tc_dlg a_11 (show ¬ Int32.toInt (q_8.1 20 2) = 0 by omega) (show 0 ≤ Int32.toInt (q_8.1 20 2) by omega) (show Int32.toInt (q_8.1 20 2) ≤ (q_8.2.2.length : Int) by omega)
      refine dOk_G g_20 ?_
      refine dOk_G g_20 ?_
      have f_21 : 0 ≤ Int32.toInt (txC q_8 (q_8.1 20 2)) ∧ Int32.toInt (txC q_8 (q_8.1 20 2)) ≤ 12 := tx_C a_11 g_20
      have w_22 : Int32.toInt (txC q_8 (q_8.1 20 2)) = Int32.toInt (txC q (q.1 20 2)) := by rw [a_12.1 20 2 (by decide) (by decide)]; exact tx_eqC a_12.2
      refine dOk_le (A := Int32.toInt (txC q_8 (q_8.1 20 2))) (B := Int32.toInt x2_10) rfl rfl (fun c_23 => ?_) (fun c_24 => ?_)
      · exact dOk_some (show (TC q_8) ∧ (cFr [19] [(18, 1)] q q_8) ∧ (((0 : Int) = 0 ∨ (0 : Int) = 1)) from ⟨a_11, hFq_8, by omega⟩)
      · refine dOk_G g_20 ?_
        refine dOk_G g_20 ?_
        refine dOk_G g_20 ?_
        have f_25 : 0 ≤ Int32.toInt (txN q_8 (q_8.1 20 2)) ∧ Int32.toInt (txN q_8 (q_8.1 20 2)) ≤ 12 := tx_N a_11 g_20
        have w_26 : Int32.toInt (txN q_8 (q_8.1 20 2)) = Int32.toInt (txC q_8 (q_8.1 20 2)) := tx_N2 a_11 g_20
        have w_27 : Int32.toInt (txN q_8 (q_8.1 20 2)) = Int32.toInt (txN q (q.1 20 2)) := by rw [a_12.1 20 2 (by decide) (by decide)]; exact tx_eqN a_12.2
        refine dOk_G (dg_ok (show 0 ≤ Int32.toInt x2_10 by omega) (show Int32.toInt x2_10 < ((Int32.toNatClampNeg (txN q_8 (q_8.1 20 2)) : Nat) : Int) by rw [cl_eq (show 0 ≤ Int32.toInt (txN q_8 (q_8.1 20 2)) by omega)]; omega)) ?_
        refine dOk_L (fun v_28 ev_28 => ?_)
        refine dOk_eq (A := Int32.toInt v_28) (B := Int32.toInt p1) rfl rfl (fun c_29z c_29 => ?_) (fun c_30z c_30 => ?_)
        · refine dOk_G g_20 ?_
          refine dOk_G g_20 ?_
          refine dOk_G g_20 ?_
          refine dOk_G g_20 ?_
          refine dOk_G (dg_ok (show 0 ≤ Int32.toInt x2_10 by omega) (show Int32.toInt x2_10 < ((Int32.toNatClampNeg (txN q_8 (q_8.1 20 2)) : Nat) : Int) by rw [cl_eq (show 0 ≤ Int32.toInt (txN q_8 (q_8.1 20 2)) by omega)]; omega)) ?_
          refine dOk_L (fun v_32 ev_32 => ?_)
          have f_33 : 0 ≤ Int32.toInt v_32 := by rw [ev_32]; exact tx_R a_11 g_20 _ _ (by decide)
          refine dOk_G g_20 ?_
          refine dOk_G g_20 ?_
          refine dOk_G g_20 ?_
          refine dOk_G (dg_ok (show 0 ≤ Int32.toInt x2_10 by omega) (show Int32.toInt x2_10 < ((Int32.toNatClampNeg (txN q_8 (q_8.1 20 2)) : Nat) : Int) by rw [cl_eq (show 0 ≤ Int32.toInt (txN q_8 (q_8.1 20 2)) by omega)]; omega)) ?_
          refine dOk_L (fun v_34 ev_34 => ?_)
          have f_35 : 0 ≤ Int32.toInt v_34 := by rw [ev_34]; exact tx_R a_11 g_20 _ _ (by decide)
          refine dOk_B (ok_X2_valueOf_s18_l_s21 q_8 (q_8.1 20 2) v_32 v_34 a_11 (show ¬ Int32.toInt (q_8.1 20 2) = 0 by omega) (show 0 ≤ Int32.toInt (q_8.1 20 2) by omega) (show Int32.toInt (q_8.1 20 2) ≤ (q_8.2.2.length : Int) by omega) (show 0 ≤ Int32.toInt v_32 by omega)) (fun r_36 q_37 h_38 => ?_)
          replace h_38 : (TC q_37) ∧ (cFr [19] [(18, 1)] q_8 q_37) := h_38
          obtain ⟨i_39, i_40⟩ := h_38
          have hFq_37 : cFr [19] [(18, 1)] q q_37 := hFq_8.t i_40 (by decide) (by decide)
          refine dOk_eq (A := Int32.toInt r_36) (B := 1) rfl (by decide) (fun c_41z c_41 => ?_) (fun c_42z c_42 => ?_)
          · exact dOk_some (show (TC q_37) ∧ (cFr [19] [(18, 1)] q q_37) ∧ (((1 : Int) = 0 ∨ (1 : Int) = 1)) from ⟨i_39, hFq_37, by omega⟩)
          · unfold zX1_anyHolds_s20_74
            try have t_44 : Int32.toInt (x2_10 + 1) = Int32.toInt x2_10 + 1 := ti_add rfl (by decide) (by omega) (by omega)
            exact hk_6 (q_37, p1, (x2_10 + 1)) (show (TC q_37) ∧ (cFr [19] [(18, 1)] q q_37) ∧ (p1 = p1) ∧ (0 ≤ Int32.toInt (x2_10 + 1)) ∧ (Int32.toInt (x2_10 + 1) ≤ 12) from ⟨i_39, ((((cFr.rf : cFr [19] [(18, 1)] q q).t a_12 (by decide) (by decide)) : cFr [19] [(18, 1)] q q_8).t i_40 (by decide) (by decide)), rfl, by omega, by omega⟩) (show (12 - Int32.toInt (x2_10 + 1)).toNat < (12 - Int32.toInt x2_10).toNat by omega)
        · unfold zX1_anyHolds_s20_74
          try have t_45 : Int32.toInt (x2_10 + 1) = Int32.toInt x2_10 + 1 := ti_add rfl (by decide) (by omega) (by omega)
          exact hk_6 (q_8, p1, (x2_10 + 1)) (show (TC q_8) ∧ (cFr [19] [(18, 1)] q q_8) ∧ (p1 = p1) ∧ (0 ≤ Int32.toInt (x2_10 + 1)) ∧ (Int32.toInt (x2_10 + 1) ≤ 12) from ⟨a_11, ((cFr.rf : cFr [19] [(18, 1)] q q).t a_12 (by decide) (by decide)), rfl, by omega, by omega⟩) (show (12 - Int32.toInt (x2_10 + 1)).toNat < (12 - Int32.toInt x2_10).toNat by omega)
    · exact (show (TC q) ∧ (cFr [19] [(18, 1)] q q) ∧ (p1 = p1) ∧ (0 ≤ (0 : Int)) ∧ ((0 : Int) ≤ 12) from ⟨hT, cFr.rf, rfl, by omega, by omega⟩)
    · show (12 - (0 : Int)).toNat < 1000000000000
      omega

set_option maxHeartbeats 4000000 in
set_option maxRecDepth 100000 in
theorem ok_X1_pay_s20 (q : dK) (hT : TC q) (hp0 : 0 ≤ Int32.toInt (q.1 21 0)) (hp1 : Int32.toInt (q.1 21 0) ≤ 99) : dOk (zX1_pay_s20 q) (fun (o : Int32 × dK) => (TC o.2) ∧ (cFr [19] [(18, 1)] q o.2) ∧ (0 ≤ Int32.toInt o.1 ∧ Int32.toInt o.1 ≤ 99)) := by
  unfold zX1_pay_s20
  simp only [txC_r, txL_r, txN_r, txK_r, txR_r]
  have f_1 : 0 ≤ Int32.toInt (q.1 20 2) ∧ Int32.toInt (q.1 20 2) ≤ 2147483647 := rg_20_2 hT
  have k_2 : Int32.toInt (q.1 20 2) ≤ (q.2.2.length : Int) := hT.2.1.1
  refine dOk_eq (A := Int32.toInt (q.1 20 2)) (B := 0) rfl (by decide) (fun c_3z c_3 => ?_) (fun c_4z c_4 => ?_)
  · exact dOk_some (show (TC q) ∧ (cFr [19] [(18, 1)] q q) ∧ (0 ≤ Int32.toInt (q.1 21 0) ∧ Int32.toInt (q.1 21 0) ≤ 99) from ⟨hT, (cFr.rf (q := q)), by omega⟩)
  · have g_6 : dlg q (q.1 20 2) = true := tc_dlg hT (show ¬ Int32.toInt (q.1 20 2) = 0 by omega) (show 0 ≤ Int32.toInt (q.1 20 2) by omega) (show Int32.toInt (q.1 20 2) ≤ (q.2.2.length : Int) by omega)
    refine dOk_G g_6 ?_
    refine dOk_G g_6 ?_
    unfold zX1_pay_s20_24
    refine dFix_ok (fun (a : dK × Int32) => (TC a.1) ∧ (cFr [19] [(18, 1)] q a.1) ∧ (-1 ≤ Int32.toInt a.2) ∧ (Int32.toInt a.2 < Int32.toInt (txC a.1 (a.1.1 20 2))) ∧ (¬ Int32.toInt (a.1.1 20 2) = 0)) (fun (a : dK × Int32) => (Int32.toInt a.2 + 1).toNat) ?_ _ ?_ _ (dF_gt ?_)
    · intro a ha k_8 hk_7
      obtain ⟨q_9, x1_10⟩ := a
      replace ha : (TC q_9) ∧ (cFr [19] [(18, 1)] q q_9) ∧ (-1 ≤ Int32.toInt x1_10) ∧ (Int32.toInt x1_10 < Int32.toInt (txC q_9 (q_9.1 20 2))) ∧ (¬ Int32.toInt (q_9.1 20 2) = 0) := ha
      obtain ⟨a_11, a_12, a_13, a_14, a_15⟩ := ha
      show dOk (zX1_pay_s20_24b  (fun q x1 => k_8 (q, x1)) q_9 x1_10) _
      unfold zX1_pay_s20_24b
      simp only [txC_r, txL_r, txN_r, txK_r, txR_r]
      have hFq_9 : cFr [19] [(18, 1)] q q_9 := (cFr.rf (q := q)).t a_12 (by decide) (by decide)
      have f_16 : 0 ≤ Int32.toInt (q_9.1 20 2) ∧ Int32.toInt (q_9.1 20 2) ≤ 2147483647 := rg_20_2 a_11
      have n_17 : q_9.2.2.length = q.2.2.length := (congrArg List.length a_12.2)
      have k_18 : Int32.toInt (q_9.1 20 2) ≤ (q_9.2.2.length : Int) := a_11.2.1.1
      have w_19 : Int32.toInt (q_9.1 20 2) = Int32.toInt (q.1 20 2) := by rw [a_12.1 20 2 (by decide) (by decide)]
      have f_20 : 0 ≤ Int32.toInt (txC q (q.1 20 2)) ∧ Int32.toInt (txC q (q.1 20 2)) ≤ 12 := tx_C hT g_6
      have w_21 : Int32.toInt (txC q_9 (q_9.1 20 2)) = Int32.toInt (txC q (q.1 20 2)) := by rw [a_12.1 20 2 (by decide) (by decide)]; exact tx_eqC a_12.2
      refine dOk_lt (A := Int32.toInt x1_10) (B := 0) rfl (by decide) (fun c_22 => ?_) (fun c_23 => ?_)
      · have w_24 : Int32.toInt (q_9.1 21 0) = Int32.toInt (q.1 21 0) := by rw [a_12.1 21 0 (by decide) (by decide)]
        exact dOk_some (show (TC q_9) ∧ (cFr [19] [(18, 1)] q q_9) ∧ (0 ≤ Int32.toInt (q_9.1 21 0) ∧ Int32.toInt (q_9.1 21 0) ≤ 99) from ⟨a_11, hFq_9, by omega⟩)
      · have g_25 : dlg q_9 (q_9.1 20 2) = true := tc_dlg a_11 (show ¬ Int32.toInt (q_9.1 20 2) = 0 by omega) (show 0 ≤ Int32.toInt (q_9.1 20 2) by omega) (show Int32.toInt (q_9.1 20 2) ≤ (q_9.2.2.length : Int) by omega)
        refine dOk_G g_25 ?_
        refine dOk_G g_25 ?_
        refine dOk_G g_25 ?_
        have f_26 : 0 ≤ Int32.toInt (txN q_9 (q_9.1 20 2)) ∧ Int32.toInt (txN q_9 (q_9.1 20 2)) ≤ 12 := tx_N a_11 g_25
        have w_27 : Int32.toInt (txN q_9 (q_9.1 20 2)) = Int32.toInt (txC q_9 (q_9.1 20 2)) := tx_N2 a_11 g_25
        have f_28 : 0 ≤ Int32.toInt (txN q (q.1 20 2)) ∧ Int32.toInt (txN q (q.1 20 2)) ≤ 12 := tx_N hT g_6
        have w_29 : Int32.toInt (txN q (q.1 20 2)) = Int32.toInt (txC q (q.1 20 2)) := tx_N2 hT g_6
        have w_30 : Int32.toInt (txN q_9 (q_9.1 20 2)) = Int32.toInt (txN q (q.1 20 2)) := by rw [a_12.1 20 2 (by decide) (by decide)]; exact tx_eqN a_12.2
        refine dOk_G (dg_ok (show 0 ≤ Int32.toInt x1_10 by omega) (show Int32.toInt x1_10 < ((Int32.toNatClampNeg (txN q_9 (q_9.1 20 2)) : Nat) : Int) by rw [cl_eq (show 0 ≤ Int32.toInt (txN q_9 (q_9.1 20 2)) by omega)]; omega)) ?_
        refine dOk_L (fun v_31 ev_31 => ?_)
        refine dOk_eq (A := Int32.toInt v_31) (B := 0) rfl (by decide) (fun c_32z c_32 => ?_) (fun c_33z c_33 => ?_)
        · refine dOk_G g_25 ?_
          refine dOk_G g_25 ?_
          refine dOk_G g_25 ?_
          refine dOk_G g_25 ?_
          refine dOk_G (dg_ok (show 0 ≤ Int32.toInt x1_10 by omega) (show Int32.toInt x1_10 < ((Int32.toNatClampNeg (txN q_9 (q_9.1 20 2)) : Nat) : Int) by rw [cl_eq (show 0 ≤ Int32.toInt (txN q_9 (q_9.1 20 2)) by omega)]; omega)) ?_
          refine dOk_L (fun v_35 ev_35 => ?_)
          have f_36 : 0 ≤ Int32.toInt v_35 := by rw [ev_35]; exact tx_R a_11 g_25 _ _ (by decide)
          refine dOk_G g_25 ?_
          refine dOk_G g_25 ?_
          refine dOk_G g_25 ?_
          refine dOk_G (dg_ok (show 0 ≤ Int32.toInt x1_10 by omega) (show Int32.toInt x1_10 < ((Int32.toNatClampNeg (txN q_9 (q_9.1 20 2)) : Nat) : Int) by rw [cl_eq (show 0 ≤ Int32.toInt (txN q_9 (q_9.1 20 2)) by omega)]; omega)) ?_
          refine dOk_L (fun v_37 ev_37 => ?_)
          have f_38 : 0 ≤ Int32.toInt v_37 := by rw [ev_37]; exact tx_R a_11 g_25 _ _ (by decide)
          refine dOk_B (ok_X2_valueOf_s18_l_s21 q_9 (q_9.1 20 2) v_35 v_37 a_11 (show ¬ Int32.toInt (q_9.1 20 2) = 0 by omega) (show 0 ≤ Int32.toInt (q_9.1 20 2) by omega) (show Int32.toInt (q_9.1 20 2) ≤ (q_9.2.2.length : Int) by omega) (show 0 ≤ Int32.toInt v_35 by omega)) (fun r_39 q_40 h_41 => ?_)
          replace h_41 : (TC q_40) ∧ (cFr [19] [(18, 1)] q_9 q_40) := h_41
          obtain ⟨i_42, i_43⟩ := h_41
          have hFq_40 : cFr [19] [(18, 1)] q q_40 := hFq_9.t i_43 (by decide) (by decide)
          refine dOk_eq (A := Int32.toInt r_39) (B := 1) rfl (by decide) (fun c_44z c_44 => ?_) (fun c_45z c_45 => ?_)
          · have f_47 : 0 ≤ Int32.toInt (q_40.1 20 2) ∧ Int32.toInt (q_40.1 20 2) ≤ 2147483647 := rg_20_2 i_42
            have n_48 : q_40.2.2.length = q_9.2.2.length := (congrArg List.length i_43.2)
            have k_49 : Int32.toInt (q_40.1 20 2) ≤ (q_40.2.2.length : Int) := i_42.2.1.1
            have w_50 : Int32.toInt (q_40.1 20 2) = Int32.toInt (q_9.1 20 2) := by rw [i_43.1 20 2 (by decide) (by decide)]
            have g_51 : dlg q_40 (q_40.1 20 2) = true := tc_dlg i_42 (show ¬ Int32.toInt (q_40.1 20 2) = 0 by omega) (show 0 ≤ Int32.toInt (q_40.1 20 2) by omega) (show Int32.toInt (q_40.1 20 2) ≤ (q_40.2.2.length : Int) by omega)
            refine dOk_G g_51 ?_
            refine dOk_G g_51 ?_
            refine dOk_G g_51 ?_
            refine dOk_G g_51 ?_
            have f_52 : 0 ≤ Int32.toInt (txN q_40 (q_40.1 20 2)) ∧ Int32.toInt (txN q_40 (q_40.1 20 2)) ≤ 12 := tx_N i_42 g_51
            have w_53 : Int32.toInt (txN q_40 (q_40.1 20 2)) = Int32.toInt (txC q_40 (q_40.1 20 2)) := tx_N2 i_42 g_51
            have w_54 : Int32.toInt (txN q_40 (q_40.1 20 2)) = Int32.toInt (txN q_9 (q_9.1 20 2)) := by rw [i_43.1 20 2 (by decide) (by decide)]; exact tx_eqN i_43.2
            refine dOk_G (dg_ok (show 0 ≤ Int32.toInt x1_10 by omega) (show Int32.toInt x1_10 < ((Int32.toNatClampNeg (txN q_40 (q_40.1 20 2)) : Nat) : Int) by rw [cl_eq (show 0 ≤ Int32.toInt (txN q_40 (q_40.1 20 2)) by omega)]; omega)) ?_
            refine dOk_L (fun v_55 ev_55 => ?_)
            have f_56 : 0 ≤ Int32.toInt v_55 := by rw [ev_55]; exact tx_R i_42 g_51 _ _ (by decide)
            refine dOk_G g_51 ?_
            refine dOk_G g_51 ?_
            refine dOk_G g_51 ?_
            refine dOk_G (dg_ok (show 0 ≤ Int32.toInt x1_10 by omega) (show Int32.toInt x1_10 < ((Int32.toNatClampNeg (txN q_40 (q_40.1 20 2)) : Nat) : Int) by rw [cl_eq (show 0 ≤ Int32.toInt (txN q_40 (q_40.1 20 2)) by omega)]; omega)) ?_
            refine dOk_L (fun v_57 ev_57 => ?_)
            have f_58 : 0 ≤ Int32.toInt v_57 := by rw [ev_57]; exact tx_R i_42 g_51 _ _ (by decide)
            refine dOk_B (ok_X2_valueOf_s18_l_s21 q_40 (q_40.1 20 2) v_55 v_57 i_42 (show ¬ Int32.toInt (q_40.1 20 2) = 0 by omega) (show 0 ≤ Int32.toInt (q_40.1 20 2) by omega) (show Int32.toInt (q_40.1 20 2) ≤ (q_40.2.2.length : Int) by omega) (show 0 ≤ Int32.toInt v_55 by omega)) (fun r_59 q_60 h_61 => ?_)
            replace h_61 : (TC q_60) ∧ (cFr [19] [(18, 1)] q_40 q_60) := h_61
            obtain ⟨i_62, i_63⟩ := h_61
            have hFq_60 : cFr [19] [(18, 1)] q q_60 := hFq_40.t i_63 (by decide) (by decide)
            have f_64 : 0 ≤ Int32.toInt (q_60.1 18 1) ∧ Int32.toInt (q_60.1 18 1) ≤ 1 := rg_18_1 i_62
            refine dOk_eq (A := Int32.toInt (q_60.1 18 1)) (B := 0) rfl (by decide) (fun c_65z c_65 => ?_) (fun c_66z c_66 => ?_)
            · have f_68 : 0 ≤ Int32.toInt (mxI 0 (mnI 99 r_59)) ∧ Int32.toInt (mxI 0 (mnI 99 r_59)) ≤ 99 := mxmn _
              exact dOk_some (show (TC q_60) ∧ (cFr [19] [(18, 1)] q q_60) ∧ (0 ≤ Int32.toInt (mxI 0 (mnI 99 r_59)) ∧ Int32.toInt (mxI 0 (mnI 99 r_59)) ≤ 99) from ⟨i_62, hFq_60, by omega⟩)
            · unfold zX1_pay_s20_132
              obtain ⟨y_69, hy_69⟩ : ∃ y : Int32, x1_10 + (-1) = y := ⟨_, rfl⟩
              have t_70 : Int32.toInt y_69 = Int32.toInt x1_10 + (-1) := by rw [← hy_69]; exact ti_add rfl (by decide) (by omega) (by omega)
              rw [hy_69]
              clear hy_69
              have f_71 : 0 ≤ Int32.toInt (q_60.1 20 2) ∧ Int32.toInt (q_60.1 20 2) ≤ 2147483647 := rg_20_2 i_62
              have n_72 : q_60.2.2.length = q_40.2.2.length := (congrArg List.length i_63.2)
              have k_73 : Int32.toInt (q_60.1 20 2) ≤ (q_60.2.2.length : Int) := i_62.2.1.1
              have w_74 : Int32.toInt (q_60.1 20 2) = Int32.toInt (q_40.1 20 2) := by rw [i_63.1 20 2 (by decide) (by decide)]
              have f_75 : 0 ≤ Int32.toInt (txC q_40 (q_40.1 20 2)) ∧ Int32.toInt (txC q_40 (q_40.1 20 2)) ≤ 12 := tx_C i_42 g_51
              have w_76 : Int32.toInt (txC q_40 (q_40.1 20 2)) = Int32.toInt (txC q_9 (q_9.1 20 2)) := by rw [i_43.1 20 2 (by decide) (by decide)]; exact tx_eqC i_43.2
              have w_77 : Int32.toInt (txC q_60 (q_60.1 20 2)) = Int32.toInt (txC q_40 (q_40.1 20 2)) := by rw [i_63.1 20 2 (by decide) (by decide)]; exact tx_eqC i_63.2
              exact hk_7 (q_60, y_69) (show (TC q_60) ∧ (cFr [19] [(18, 1)] q q_60) ∧ (-1 ≤ Int32.toInt y_69) ∧ (Int32.toInt y_69 < Int32.toInt (txC q_60 (q_60.1 20 2))) ∧ (¬ Int32.toInt (q_60.1 20 2) = 0) from ⟨i_62, ((((((cFr.rf : cFr [19] [(18, 1)] q q).t a_12 (by decide) (by decide)) : cFr [19] [(18, 1)] q q_9).t i_43 (by decide) (by decide)) : cFr [19] [(18, 1)] q q_40).t i_63 (by decide) (by decide)), by omega, by omega, by omega⟩) (show (Int32.toInt y_69 + 1).toNat < (Int32.toInt x1_10 + 1).toNat by omega)
          · unfold zX1_pay_s20_132
            obtain ⟨y_78, hy_78⟩ : ∃ y : Int32, x1_10 + (-1) = y := ⟨_, rfl⟩
            have t_79 : Int32.toInt y_78 = Int32.toInt x1_10 + (-1) := by rw [← hy_78]; exact ti_add rfl (by decide) (by omega) (by omega)
            rw [hy_78]
            clear hy_78
            have f_80 : 0 ≤ Int32.toInt (q_40.1 20 2) ∧ Int32.toInt (q_40.1 20 2) ≤ 2147483647 := rg_20_2 i_42
            have n_81 : q_40.2.2.length = q_9.2.2.length := (congrArg List.length i_43.2)
            have k_82 : Int32.toInt (q_40.1 20 2) ≤ (q_40.2.2.length : Int) := i_42.2.1.1
            have w_83 : Int32.toInt (q_40.1 20 2) = Int32.toInt (q_9.1 20 2) := by rw [i_43.1 20 2 (by decide) (by decide)]
            have w_84 : Int32.toInt (txC q_40 (q_40.1 20 2)) = Int32.toInt (txC q_9 (q_9.1 20 2)) := by rw [i_43.1 20 2 (by decide) (by decide)]; exact tx_eqC i_43.2
            exact hk_7 (q_40, y_78) (show (TC q_40) ∧ (cFr [19] [(18, 1)] q q_40) ∧ (-1 ≤ Int32.toInt y_78) ∧ (Int32.toInt y_78 < Int32.toInt (txC q_40 (q_40.1 20 2))) ∧ (¬ Int32.toInt (q_40.1 20 2) = 0) from ⟨i_42, ((((cFr.rf : cFr [19] [(18, 1)] q q).t a_12 (by decide) (by decide)) : cFr [19] [(18, 1)] q q_9).t i_43 (by decide) (by decide)), by omega, by omega, by omega⟩) (show (Int32.toInt y_78 + 1).toNat < (Int32.toInt x1_10 + 1).toNat by omega)
        · unfold zX1_pay_s20_132
          obtain ⟨y_85, hy_85⟩ : ∃ y : Int32, x1_10 + (-1) = y := ⟨_, rfl⟩
          have t_86 : Int32.toInt y_85 = Int32.toInt x1_10 + (-1) := by rw [← hy_85]; exact ti_add rfl (by decide) (by omega) (by omega)
          rw [hy_85]
          clear hy_85
          exact hk_7 (q_9, y_85) (show (TC q_9) ∧ (cFr [19] [(18, 1)] q q_9) ∧ (-1 ≤ Int32.toInt y_85) ∧ (Int32.toInt y_85 < Int32.toInt (txC q_9 (q_9.1 20 2))) ∧ (¬ Int32.toInt (q_9.1 20 2) = 0) from ⟨a_11, ((cFr.rf : cFr [19] [(18, 1)] q q).t a_12 (by decide) (by decide)), by omega, by omega, by omega⟩) (show (Int32.toInt y_85 + 1).toNat < (Int32.toInt x1_10 + 1).toNat by omega)
    · have f_87 : 0 ≤ Int32.toInt (txC q (q.1 20 2)) ∧ Int32.toInt (txC q (q.1 20 2)) ≤ 12 := tx_C hT g_6
      try have t_88 : Int32.toInt (txC q (q.1 20 2) - 1) = Int32.toInt (txC q (q.1 20 2)) - 1 := ti_sub rfl (by decide) (by omega) (by omega)
      exact (show (TC q) ∧ (cFr [19] [(18, 1)] q q) ∧ (-1 ≤ Int32.toInt (txC q (q.1 20 2) - 1)) ∧ (Int32.toInt (txC q (q.1 20 2) - 1) < Int32.toInt (txC q (q.1 20 2))) ∧ (¬ Int32.toInt (q.1 20 2) = 0) from ⟨hT, cFr.rf, by omega, by omega, by omega⟩)
    · have f_89 : 0 ≤ Int32.toInt (txC q (q.1 20 2)) ∧ Int32.toInt (txC q (q.1 20 2)) ≤ 12 := tx_C hT g_6
      try have t_90 : Int32.toInt (txC q (q.1 20 2) - 1) = Int32.toInt (txC q (q.1 20 2)) - 1 := ti_sub rfl (by decide) (by omega) (by omega)
      show (Int32.toInt (txC q (q.1 20 2) - 1) + 1).toNat < 1000000000000
      omega

set_option maxHeartbeats 4000000 in
set_option maxRecDepth 100000 in
theorem ok_X1_bars_s20_s2 (q : dK) (p2 : Int32) (hT : TC q) : dOk (zX1_bars_s20_s2 q p2) (fun (o : Int32 × dK) => (TC o.2) ∧ (cFr [19, 21] [(18, 1)] q o.2) ∧ ((Int32.toInt o.1 = 0 ∨ Int32.toInt o.1 = 1))) := by
  unfold zX1_bars_s20_s2
  refine dOk_V (ok_X1_setTurn_s20_s2 q p2 hT) (fun q_1 h_2 => ?_)
  replace h_2 : (TC q_1) ∧ (cFr [21] [] q q_1) ∧ (Int32.toInt (q_1.1 21 0) = Int32.toInt p2) := h_2
  obtain ⟨i_3, i_4, i_5⟩ := h_2
  have hFq_1 : cFr [19, 21] [(18, 1)] q q_1 := (cFr.rf (q := q)).t i_4 (by decide) (by decide)
  refine dOk_B (ok_X1_anyHolds_s20 q_1 1 i_3) (fun r_6 q_7 h_8 => ?_)
  replace h_8 : (TC q_7) ∧ (cFr [19] [(18, 1)] q_1 q_7) ∧ ((Int32.toInt r_6 = 0 ∨ Int32.toInt r_6 = 1)) := h_8
  obtain ⟨i_9, i_10, i_11⟩ := h_8
  have hFq_7 : cFr [19, 21] [(18, 1)] q q_7 := hFq_1.t i_10 (by decide) (by decide)
  refine dOk_G (dbl_ok (show Int32.toInt r_6 = 0 ∨ Int32.toInt r_6 = 1 by omega)) ?_
  exact dOk_some (show (TC q_7) ∧ (cFr [19, 21] [(18, 1)] q q_7) ∧ ((Int32.toInt r_6 = 0 ∨ Int32.toInt r_6 = 1)) from ⟨i_9, hFq_7, by omega⟩)

set_option maxHeartbeats 4000000 in
set_option maxRecDepth 100000 in
theorem ok_X1_payOf_s20_s2 (q : dK) (p2 : Int32) (hT : TC q) (hp0 : 0 ≤ Int32.toInt p2 ∧ Int32.toInt p2 ≤ 99) : dOk (zX1_payOf_s20_s2 q p2) (fun (o : Int32 × dK) => (TC o.2) ∧ (cFr [19, 21] [(18, 1)] q o.2) ∧ (0 ≤ Int32.toInt o.1 ∧ Int32.toInt o.1 ≤ 99)) := by
  unfold zX1_payOf_s20_s2
  refine dOk_V (ok_X1_setTurn_s20_s2 q p2 hT) (fun q_1 h_2 => ?_)
  replace h_2 : (TC q_1) ∧ (cFr [21] [] q q_1) ∧ (Int32.toInt (q_1.1 21 0) = Int32.toInt p2) := h_2
  obtain ⟨i_3, i_4, i_5⟩ := h_2
  have hFq_1 : cFr [19, 21] [(18, 1)] q q_1 := (cFr.rf (q := q)).t i_4 (by decide) (by decide)
  refine dOk_B (ok_X1_pay_s20 q_1 i_3 (show 0 ≤ Int32.toInt (q_1.1 21 0) by omega) (show Int32.toInt (q_1.1 21 0) ≤ 99 by omega)) (fun r_6 q_7 h_8 => ?_)
  replace h_8 : (TC q_7) ∧ (cFr [19] [(18, 1)] q_1 q_7) ∧ (0 ≤ Int32.toInt r_6 ∧ Int32.toInt r_6 ≤ 99) := h_8
  obtain ⟨i_9, i_10, i_11⟩ := h_8
  have hFq_7 : cFr [19, 21] [(18, 1)] q q_7 := hFq_1.t i_10 (by decide) (by decide)
  exact dOk_some (show (TC q_7) ∧ (cFr [19, 21] [(18, 1)] q q_7) ∧ (0 ≤ Int32.toInt r_6 ∧ Int32.toInt r_6 ≤ 99) from ⟨i_9, hFq_7, by omega⟩)

set_option maxHeartbeats 4000000 in
set_option maxRecDepth 100000 in
theorem ok_X1_tips_s20_s2 (q : dK) (p2 : Int32) (hT : TC q) : dOk (zX1_tips_s20_s2 q p2) (fun (o : Int32 × dK) => (TC o.2) ∧ (cFr [19, 21] [(18, 1)] q o.2) ∧ ((Int32.toInt o.1 = 0 ∨ Int32.toInt o.1 = 1))) := by
  unfold zX1_tips_s20_s2
  refine dOk_B (ok_X8_isFloor_s2 q p2 hT) (fun r_1 q_2 h_3 => ?_)
  replace h_3 : (q_2 = q) ∧ ((Int32.toInt r_1 = 1 ∧ 0 ≤ Int32.toInt p2 ∧ Int32.toInt p2 < Int32.toInt (q.1 2 2)) ∨ (Int32.toInt r_1 = 0 ∧ (Int32.toInt p2 < 0 ∨ Int32.toInt (q.1 2 2) ≤ Int32.toInt p2))) := h_3
  obtain ⟨i_4, i_5⟩ := h_3
  subst q_2
  have f_6 : 0 ≤ Int32.toInt (q.1 2 2) ∧ Int32.toInt (q.1 2 2) ≤ 6 := rg_2_2 hT
  refine dOk_eq (A := Int32.toInt r_1) (B := 0) rfl (by decide) (fun c_7z c_7 => ?_) (fun c_8z c_8 => ?_)
  · exact dOk_some (show (TC q) ∧ (cFr [19, 21] [(18, 1)] q q) ∧ (((0 : Int) = 0 ∨ (0 : Int) = 1)) from ⟨hT, (cFr.rf (q := q)), by omega⟩)
  · have f_10 : 0 ≤ Int32.toInt (q.1 2 4) ∧ Int32.toInt (q.1 2 4) ≤ 1023 := rg_2_4 hT
    refine dOk_V (ok_X1_setCommon_s20 q (q.1 2 2) (q.1 2 4) hT) (fun q_11 h_12 => ?_)
    replace h_12 : (TC q_11) ∧ (cFr [21] [] q q_11) := h_12
    obtain ⟨i_13, i_14⟩ := h_12
    have hFq_11 : cFr [19, 21] [(18, 1)] q q_11 := (cFr.rf (q := q)).t i_14 (by decide) (by decide)
    refine dOk_L (fun q_15 eq_15 => ?_)
    have hTq_15 : TC q_15 := by rw [eq_15]; exact sa_21 i_13
    have hFq_15 : cFr [19, 21] [(18, 1)] q q_15 := by rw [eq_15]; exact hFq_11.i (by decide)
    refine dOk_L (fun q_16 eq_16 => ?_)
    have hTq_16 : TC q_16 := by rw [eq_16]; exact sa_21 hTq_15
    have hFq_16 : cFr [19, 21] [(18, 1)] q q_16 := by rw [eq_16]; exact hFq_15.i (by decide)
    refine dOk_L (fun q_17 eq_17 => ?_)
    have hTq_17 : TC q_17 := by rw [eq_17]; exact sa_21 hTq_16
    have hFq_17 : cFr [19, 21] [(18, 1)] q q_17 := by rw [eq_17]; exact hFq_16.i (by decide)
    refine dOk_G (dg_ok (show 0 ≤ Int32.toInt p2 by omega) (show Int32.toInt p2 < ((6 : Nat) : Int) by omega)) ?_
    have n_18 : ((Int32.toNatClampNeg p2 : Nat) : Int) = Int32.toInt p2 := cl_eq (by omega)
    refine dOk_L (fun v_19 ev_19 => ?_)
    have f_20 : 0 ≤ Int32.toInt v_19 ∧ Int32.toInt v_19 ≤ 1 := by rw [ev_19]; exact rg_4 hTq_17 _
    refine dOk_L (fun q_21 eq_21 => ?_)
    have hTq_21 : TC q_21 := by rw [eq_21]; exact sa_21 hTq_17
    have hFq_21 : cFr [19, 21] [(18, 1)] q q_21 := by rw [eq_21]; exact hFq_17.i (by decide)
    refine dOk_G (dg_ok (show 0 ≤ Int32.toInt p2 by omega) (show Int32.toInt p2 < ((6 : Nat) : Int) by omega)) ?_
    refine dOk_L (fun v_22 ev_22 => ?_)
    have f_23 : 0 ≤ Int32.toInt v_22 ∧ Int32.toInt v_22 ≤ 7 := by rw [ev_22]; exact rg_3 hTq_21 _
    refine dOk_L (fun q_24 eq_24 => ?_)
    have hTq_24 : TC q_24 := by rw [eq_24]; exact sa_21 hTq_21
    have hFq_24 : cFr [19, 21] [(18, 1)] q q_24 := by rw [eq_24]; exact hFq_21.i (by decide)
    refine dOk_L (fun q_25 eq_25 => ?_)
    have hTq_25 : TC q_25 := by rw [eq_25]; exact sa_21 hTq_24
    have hFq_25 : cFr [19, 21] [(18, 1)] q q_25 := by rw [eq_25]; exact hFq_24.i (by decide)
    refine dOk_B (ok_X1_anyHolds_s20 q_25 2 hTq_25) (fun r_26 q_27 h_28 => ?_)
    replace h_28 : (TC q_27) ∧ (cFr [19] [(18, 1)] q_25 q_27) ∧ ((Int32.toInt r_26 = 0 ∨ Int32.toInt r_26 = 1)) := h_28
    obtain ⟨i_29, i_30, i_31⟩ := h_28
    have hFq_27 : cFr [19, 21] [(18, 1)] q q_27 := hFq_25.t i_30 (by decide) (by decide)
    refine dOk_G (dbl_ok (show Int32.toInt r_26 = 0 ∨ Int32.toInt r_26 = 1 by omega)) ?_
    exact dOk_some (show (TC q_27) ∧ (cFr [19, 21] [(18, 1)] q q_27) ∧ ((Int32.toInt r_26 = 0 ∨ Int32.toInt r_26 = 1)) from ⟨i_29, hFq_27, by omega⟩)

set_option maxHeartbeats 4000000 in
set_option maxRecDepth 100000 in
theorem ok_X8_turnTop_s2_s20 (q : dK) (p1 : Int32) (hT : TC q) : dOk (zX8_turnTop_s2_s20 q p1) (fun (o : Int32 × dK) => (TC o.2) ∧ (cFr [3, 4, 19, 21] [(2, 3), (18, 1)] q o.2) ∧ (-3 ≤ Int32.toInt o.1 ∧ Int32.toInt o.1 ≤ 99)) := by
  unfold zX8_turnTop_s2_s20
  refine dOk_lt (A := Int32.toInt p1) (B := 1) rfl (by decide) (fun c_1 => ?_) (fun c_2 => ?_)
  · unfold zX8_turnTop_s2_s20_11
    exact dOk_some (show (TC q) ∧ (cFr [3, 4, 19, 21] [(2, 3), (18, 1)] q q) ∧ (-3 ≤ (-1 : Int) ∧ (-1 : Int) ≤ 99) from ⟨hT, (cFr.rf (q := q)), by omega⟩)
  · refine dOk_le (A := Int32.toInt p1) (B := 6) rfl (by decide) (fun c_3 => ?_) (fun c_4 => ?_)
    · have f_5 : 0 ≤ Int32.toInt (q.1 2 2) ∧ Int32.toInt (q.1 2 2) ≤ 6 := rg_2_2 hT
      refine dOk_lt (A := Int32.toInt (q.1 2 2)) (B := Int32.toInt p1) rfl rfl (fun c_6 => ?_) (fun c_7 => ?_)
      · unfold zX8_turnTop_s2_s20_30
        exact dOk_some (show (TC q) ∧ (cFr [3, 4, 19, 21] [(2, 3), (18, 1)] q q) ∧ (-3 ≤ (-3 : Int) ∧ (-3 : Int) ≤ 99) from ⟨hT, (cFr.rf (q := q)), by omega⟩)
      · refine dOk_B (ok_X1_bars_s20_s2 q p1 hT) (fun r_8 q_9 h_10 => ?_)
        replace h_10 : (TC q_9) ∧ (cFr [19, 21] [(18, 1)] q q_9) ∧ ((Int32.toInt r_8 = 0 ∨ Int32.toInt r_8 = 1)) := h_10
        obtain ⟨i_11, i_12, i_13⟩ := h_10
        have hFq_9 : cFr [3, 4, 19, 21] [(2, 3), (18, 1)] q q_9 := (cFr.rf (q := q)).t i_12 (by decide) (by decide)
        refine dOk_eq (A := Int32.toInt r_8) (B := 0) rfl (by decide) (fun c_14z c_14 => ?_) (fun c_15z c_15 => ?_)
        · refine dOk_B (ok_X1_payOf_s20_s2 q_9 p1 i_11 (show 0 ≤ Int32.toInt p1 ∧ Int32.toInt p1 ≤ 99 by omega)) (fun r_17 q_18 h_19 => ?_)
          replace h_19 : (TC q_18) ∧ (cFr [19, 21] [(18, 1)] q_9 q_18) ∧ (0 ≤ Int32.toInt r_17 ∧ Int32.toInt r_17 ≤ 99) := h_19
          obtain ⟨i_20, i_21, i_22⟩ := h_19
          have hFq_18 : cFr [3, 4, 19, 21] [(2, 3), (18, 1)] q q_18 := hFq_9.t i_21 (by decide) (by decide)
          unfold zX8_turnTop_s2_s20_48
          refine dFix_ok (fun (a : dK × Int32 × Int32 × Int32 × Int32) => (TC a.1) ∧ (cFr [3, 4] [] q_18 a.1) ∧ (a.2.1 = p1) ∧ (a.2.2.1 = r_17) ∧ (0 ≤ Int32.toInt a.2.2.2.1) ∧ (Int32.toInt a.2.2.2.1 ≤ 6) ∧ (-1 ≤ Int32.toInt a.2.2.2.2) ∧ (Int32.toInt a.2.2.2.2 ≤ 5)) (fun (a : dK × Int32 × Int32 × Int32 × Int32) => (Int32.toInt a.2.2.2.2 - Int32.toInt a.2.2.2.1 + 8).toNat) ?_ _ ?_ _ (dF_gt ?_)
          · intro a ha k_24 hk_23
            obtain ⟨q_25, x1_26, x3_27, x4_28, x5_29⟩ := a
            replace ha : (TC q_25) ∧ (cFr [3, 4] [] q_18 q_25) ∧ (x1_26 = p1) ∧ (x3_27 = r_17) ∧ (0 ≤ Int32.toInt x4_28) ∧ (Int32.toInt x4_28 ≤ 6) ∧ (-1 ≤ Int32.toInt x5_29) ∧ (Int32.toInt x5_29 ≤ 5) := ha
            obtain ⟨a_30, a_31, a_32, a_33, a_34, a_35, a_36, a_37⟩ := ha
            show dOk (zX8_turnTop_s2_s20_48b  (fun q x1 x3 x4 x5 => k_24 (q, x1, x3, x4, x5)) q_25 x1_26 x3_27 x4_28 x5_29) _
            unfold zX8_turnTop_s2_s20_48b
            have hFq_25 : cFr [3, 4, 19, 21] [(2, 3), (18, 1)] q q_25 := hFq_18.t a_31 (by decide) (by decide)
            subst x1_26
            subst x3_27
            refine dOk_le (A := Int32.toInt x5_29) (B := Int32.toInt x4_28) rfl rfl (fun c_38 => ?_) (fun c_39 => ?_)
            · unfold zX8_turnTop_s2_s20_75
              refine dFix_ok (fun (a : dK × Int32 × Int32 × Int32) => (TC a.1) ∧ (cFr [4] [] q_25 a.1) ∧ (a.2.1 = p1) ∧ (a.2.2.1 = r_17) ∧ (0 ≤ Int32.toInt a.2.2.2) ∧ (Int32.toInt a.2.2.2 ≤ 6)) (fun (a : dK × Int32 × Int32 × Int32) => (6 - Int32.toInt a.2.2.2).toNat) ?_ _ ?_ _ (dF_gt ?_)
              · intro a ha k_41 hk_40
                obtain ⟨q_42, x1_43, x3_44, x4_45⟩ := a
                replace ha : (TC q_42) ∧ (cFr [4] [] q_25 q_42) ∧ (x1_43 = p1) ∧ (x3_44 = r_17) ∧ (0 ≤ Int32.toInt x4_45) ∧ (Int32.toInt x4_45 ≤ 6) := ha
                obtain ⟨a_46, a_47, a_48, a_49, a_50, a_51⟩ := ha
                show dOk (zX8_turnTop_s2_s20_75b  (fun q x1 x3 x4 => k_41 (q, x1, x3, x4)) q_42 x1_43 x3_44 x4_45) _
                unfold zX8_turnTop_s2_s20_75b
                have hFq_42 : cFr [3, 4, 19, 21] [(2, 3), (18, 1)] q q_42 := hFq_25.t a_47 (by decide) (by decide)
                subst x1_43
                subst x3_44
                refine dOk_le (A := Int32.toInt p1) (B := Int32.toInt x4_45) rfl rfl (fun c_52 => ?_) (fun c_53 => ?_)
                · refine dOk_L (fun q_54 eq_54 => ?_)
                  have f_55 : 0 ≤ Int32.toInt (q_42.1 2 3) ∧ Int32.toInt (q_42.1 2 3) ≤ 16383 := rg_2_3 a_46
                  have f_56 : 0 ≤ Int32.toInt (q_25.1 2 3) ∧ Int32.toInt (q_25.1 2 3) ≤ 16383 := rg_2_3 a_30
                  have f_57 : 0 ≤ Int32.toInt (q_18.1 2 3) ∧ Int32.toInt (q_18.1 2 3) ≤ 16383 := rg_2_3 i_20
                  have f_58 : 0 ≤ Int32.toInt (q_9.1 2 3) ∧ Int32.toInt (q_9.1 2 3) ≤ 16383 := rg_2_3 i_11
                  have f_59 : 0 ≤ Int32.toInt (q.1 2 3) ∧ Int32.toInt (q.1 2 3) ≤ 16383 := rg_2_3 hT
                  have w_60 : Int32.toInt (q_9.1 2 3) = Int32.toInt (q.1 2 3) := by rw [i_12.1 2 3 (by decide) (by decide)]
                  have w_61 : Int32.toInt (q_18.1 2 3) = Int32.toInt (q_9.1 2 3) := by rw [i_21.1 2 3 (by decide) (by decide)]
                  have w_62 : Int32.toInt (q_25.1 2 3) = Int32.toInt (q_18.1 2 3) := by rw [a_31.1 2 3 (by decide) (by decide)]
                  have w_63 : Int32.toInt (q_42.1 2 3) = Int32.toInt (q_25.1 2 3) := by rw [a_47.1 2 3 (by decide) (by decide)]
                  try have t_64 : Int32.toInt (q_42.1 2 3 + r_17) = Int32.toInt (q_42.1 2 3) + Int32.toInt r_17 := ti_add rfl rfl (by omega) (by omega)
                  have t_65 : Int32.toInt (mnI 9999 (q_42.1 2 3 + r_17)) ≤ 9999 ∧ Int32.toInt (mnI 9999 (q_42.1 2 3 + r_17)) ≤ Int32.toInt (q_42.1 2 3 + r_17) ∧ (Int32.toInt (mnI 9999 (q_42.1 2 3 + r_17)) = 9999 ∨ Int32.toInt (mnI 9999 (q_42.1 2 3 + r_17)) = Int32.toInt (q_42.1 2 3 + r_17)) := mn_k (by decide)
                  have hTq_54 : TC q_54 := by rw [eq_54]; exact st_2_3 a_46 (show (0 : Int) ≤ Int32.toInt (mnI 9999 (q_42.1 2 3 + r_17)) by omega) (show Int32.toInt (mnI 9999 (q_42.1 2 3 + r_17)) ≤ (16383 : Int) by omega)
                  have hFq_54 : cFr [3, 4, 19, 21] [(2, 3), (18, 1)] q q_54 := by rw [eq_54]; exact hFq_42.f (by decide)
                  exact dOk_some (show (TC q_54) ∧ (cFr [3, 4, 19, 21] [(2, 3), (18, 1)] q q_54) ∧ (-3 ≤ Int32.toInt r_17 ∧ Int32.toInt r_17 ≤ 99) from ⟨hTq_54, hFq_54, by omega⟩)
                · refine dOk_G (dg_ok (show 0 ≤ Int32.toInt x4_45 by omega) (show Int32.toInt x4_45 < ((6 : Nat) : Int) by omega)) ?_
                  have n_66 : ((Int32.toNatClampNeg x4_45 : Nat) : Int) = Int32.toInt x4_45 := cl_eq (by omega)
                  refine dOk_L (fun v_67 ev_67 => ?_)
                  have f_68 : 0 ≤ Int32.toInt v_67 ∧ Int32.toInt v_67 ≤ 1 := by rw [ev_67]; exact rg_4 a_46 _
                  refine dOk_G (dg_ok (show 0 ≤ Int32.toInt x4_45 by omega) (show Int32.toInt x4_45 < ((6 : Nat) : Int) by omega)) ?_
                  refine dOk_L (fun q_69 eq_69 => ?_)
                  try have t_70 : Int32.toInt (1 - v_67) = 1 - Int32.toInt v_67 := ti_sub (by decide) rfl (by omega) (by omega)
                  have hTq_69 : TC q_69 := by rw [eq_69]; exact st_4 a_46 (show (0 : Int) ≤ Int32.toInt (1 - v_67) by omega) (show Int32.toInt (1 - v_67) ≤ (1 : Int) by omega)
                  have hFq_69 : cFr [3, 4, 19, 21] [(2, 3), (18, 1)] q q_69 := by rw [eq_69]; exact hFq_42.i (by decide)
                  try have t_71 : Int32.toInt (x4_45 + 1) = Int32.toInt x4_45 + 1 := ti_add rfl (by decide) (by omega) (by omega)
                  exact hk_40 (q_69, p1, r_17, (x4_45 + 1)) (show (TC q_69) ∧ (cFr [4] [] q_25 q_69) ∧ (p1 = p1) ∧ (r_17 = r_17) ∧ (0 ≤ Int32.toInt (x4_45 + 1)) ∧ (Int32.toInt (x4_45 + 1) ≤ 6) from ⟨hTq_69, (by rw [eq_69]; exact (((cFr.rf : cFr [4] [] q_25 q_25).t a_47 (by decide) (by decide)) : cFr [4] [] q_25 q_42).i (by decide)), rfl, rfl, by omega, by omega⟩) (show (6 - Int32.toInt (x4_45 + 1)).toNat < (6 - Int32.toInt x4_45).toNat by omega)
              · exact (show (TC q_25) ∧ (cFr [4] [] q_25 q_25) ∧ (p1 = p1) ∧ (r_17 = r_17) ∧ (0 ≤ (0 : Int)) ∧ ((0 : Int) ≤ 6) from ⟨a_30, cFr.rf, rfl, rfl, by omega, by omega⟩)
              · show (6 - (0 : Int)).toNat < 1000000000000
                omega
            · refine dOk_V (ok_X8_exchange_s2 q_25 x4_28 x5_29 a_30 (show 0 ≤ Int32.toInt x4_28 ∧ Int32.toInt x4_28 ≤ 5 by omega) (show 0 ≤ Int32.toInt x5_29 ∧ Int32.toInt x5_29 ≤ 5 by omega)) (fun q_72 h_73 => ?_)
              replace h_73 : (TC q_72) ∧ (cFr [3, 4] [] q_25 q_72) := h_73
              obtain ⟨i_74, i_75⟩ := h_73
              have hFq_72 : cFr [3, 4, 19, 21] [(2, 3), (18, 1)] q q_72 := hFq_25.t i_75 (by decide) (by decide)
              try have t_76 : Int32.toInt (x4_28 + 1) = Int32.toInt x4_28 + 1 := ti_add rfl (by decide) (by omega) (by omega)
              try have t_77 : Int32.toInt (x5_29 + (-1)) = Int32.toInt x5_29 + (-1) := ti_add rfl (by decide) (by omega) (by omega)
              exact hk_23 (q_72, p1, r_17, (x4_28 + 1), (x5_29 + (-1))) (show (TC q_72) ∧ (cFr [3, 4] [] q_18 q_72) ∧ (p1 = p1) ∧ (r_17 = r_17) ∧ (0 ≤ Int32.toInt (x4_28 + 1)) ∧ (Int32.toInt (x4_28 + 1) ≤ 6) ∧ (-1 ≤ Int32.toInt (x5_29 + (-1))) ∧ (Int32.toInt (x5_29 + (-1)) ≤ 5) from ⟨i_74, ((((cFr.rf : cFr [3, 4] [] q_18 q_18).t a_31 (by decide) (by decide)) : cFr [3, 4] [] q_18 q_25).t i_75 (by decide) (by decide)), rfl, rfl, by omega, by omega, by omega, by omega⟩) (show (Int32.toInt (x5_29 + (-1)) - Int32.toInt (x4_28 + 1) + 8).toNat < (Int32.toInt x5_29 - Int32.toInt x4_28 + 8).toNat by omega)
          · try have t_78 : Int32.toInt (p1 - 1) = Int32.toInt p1 - 1 := ti_sub rfl (by decide) (by omega) (by omega)
            exact (show (TC q_18) ∧ (cFr [3, 4] [] q_18 q_18) ∧ (p1 = p1) ∧ (r_17 = r_17) ∧ (0 ≤ (0 : Int)) ∧ ((0 : Int) ≤ 6) ∧ (-1 ≤ Int32.toInt (p1 - 1)) ∧ (Int32.toInt (p1 - 1) ≤ 5) from ⟨i_20, cFr.rf, rfl, rfl, by omega, by omega, by omega, by omega⟩)
          · try have t_79 : Int32.toInt (p1 - 1) = Int32.toInt p1 - 1 := ti_sub rfl (by decide) (by omega) (by omega)
            show (Int32.toInt (p1 - 1) - (0 : Int) + 8).toNat < 1000000000000
            omega
        · unfold zX8_turnTop_s2_s20_30
          exact dOk_some (show (TC q_9) ∧ (cFr [3, 4, 19, 21] [(2, 3), (18, 1)] q q_9) ∧ (-3 ≤ (-3 : Int) ∧ (-3 : Int) ≤ 99) from ⟨i_11, hFq_9, by omega⟩)
    · unfold zX8_turnTop_s2_s20_11
      exact dOk_some (show (TC q) ∧ (cFr [3, 4, 19, 21] [(2, 3), (18, 1)] q q) ∧ (-3 ≤ (-1 : Int) ∧ (-1 : Int) ≤ 99) from ⟨hT, (cFr.rf (q := q)), by omega⟩)
end
section
set_option maxHeartbeats 4000000 in
set_option maxRecDepth 100000 in
theorem ok_X8_passYear_s2_s20 (q : dK) (hT : TC q) : dOk (zX8_passYear_s2_s20 q) (fun (o : Int32 × dK) => (TC o.2) ∧ (cFr [4, 19, 21] [(2, 4), (18, 1)] q o.2) ∧ (-3 ≤ Int32.toInt o.1 ∧ Int32.toInt o.1 ≤ 63)) := by
  unfold zX8_passYear_s2_s20
  have f_1 : 0 ≤ Int32.toInt (q.1 2 4) ∧ Int32.toInt (q.1 2 4) ≤ 1023 := rg_2_4 hT
  refine dOk_lt (A := Int32.toInt (q.1 2 4)) (B := 999) rfl (by decide) (fun c_2 => ?_) (fun c_3 => ?_)
  · unfold zX8_passYear_s2_s20_17
    refine dFix_ok (fun (a : dK × Int32 × Int32) => (TC a.1) ∧ (cFr [19, 21] [(18, 1)] q a.1) ∧ (0 ≤ Int32.toInt a.2.2) ∧ (Int32.toInt a.2.2 ≤ 6) ∧ (Int32.toInt (a.1.1 2 4) < 999)) (fun (a : dK × Int32 × Int32) => (6 - Int32.toInt a.2.2).toNat) ?_ _ ?_ _ (dF_gt ?_)
    · intro a ha k_5 hk_4
      obtain ⟨q_6, x2_7, x3_8⟩ := a
      replace ha : (TC q_6) ∧ (cFr [19, 21] [(18, 1)] q q_6) ∧ (0 ≤ Int32.toInt x3_8) ∧ (Int32.toInt x3_8 ≤ 6) ∧ (Int32.toInt (q_6.1 2 4) < 999) := ha
      obtain ⟨a_9, a_10, a_11, a_12, a_13⟩ := ha
      show dOk (zX8_passYear_s2_s20_17b  (fun q x2 x3 => k_5 (q, x2, x3)) q_6 x2_7 x3_8) _
      unfold zX8_passYear_s2_s20_17b
      have hFq_6 : cFr [4, 19, 21] [(2, 4), (18, 1)] q q_6 := (cFr.rf (q := q)).t a_10 (by decide) (by decide)
      have f_14 : 0 ≤ Int32.toInt (q_6.1 2 4) ∧ Int32.toInt (q_6.1 2 4) ≤ 1023 := rg_2_4 a_9
      have w_15 : Int32.toInt (q_6.1 2 4) = Int32.toInt (q.1 2 4) := by rw [a_10.1 2 4 (by decide) (by decide)]
      have f_16 : 0 ≤ Int32.toInt (q_6.1 2 2) ∧ Int32.toInt (q_6.1 2 2) ≤ 6 := rg_2_2 a_9
      have f_17 : 0 ≤ Int32.toInt (q.1 2 2) ∧ Int32.toInt (q.1 2 2) ≤ 6 := rg_2_2 hT
      have w_18 : Int32.toInt (q_6.1 2 2) = Int32.toInt (q.1 2 2) := by rw [a_10.1 2 2 (by decide) (by decide)]
      refine dOk_le (A := Int32.toInt (q_6.1 2 2)) (B := Int32.toInt x3_8) rfl rfl (fun c_19 => ?_) (fun c_20 => ?_)
      · unfold zX8_passYear_s2_s20_47
        refine dFix_ok (fun (a : dK × Int32 × Int32) => (TC a.1) ∧ (cFr [4] [] q_6 a.1) ∧ (a.2.1 = x2_7) ∧ (0 ≤ Int32.toInt a.2.2) ∧ (Int32.toInt a.2.2 ≤ 6) ∧ (Int32.toInt (a.1.1 2 4) < 999)) (fun (a : dK × Int32 × Int32) => (6 - Int32.toInt a.2.2).toNat) ?_ _ ?_ _ (dF_gt ?_)
        · intro a ha k_22 hk_21
          obtain ⟨q_23, x2_24, x3_25⟩ := a
          replace ha : (TC q_23) ∧ (cFr [4] [] q_6 q_23) ∧ (x2_24 = x2_7) ∧ (0 ≤ Int32.toInt x3_25) ∧ (Int32.toInt x3_25 ≤ 6) ∧ (Int32.toInt (q_23.1 2 4) < 999) := ha
          obtain ⟨a_26, a_27, a_28, a_29, a_30, a_31⟩ := ha
          show dOk (zX8_passYear_s2_s20_47b  (fun q x2 x3 => k_22 (q, x2, x3)) q_23 x2_24 x3_25) _
          unfold zX8_passYear_s2_s20_47b
          have hFq_23 : cFr [4, 19, 21] [(2, 4), (18, 1)] q q_23 := hFq_6.t a_27 (by decide) (by decide)
          subst x2_24
          have f_32 : 0 ≤ Int32.toInt (q_23.1 2 4) ∧ Int32.toInt (q_23.1 2 4) ≤ 1023 := rg_2_4 a_26
          have w_33 : Int32.toInt (q_23.1 2 4) = Int32.toInt (q_6.1 2 4) := by rw [a_27.1 2 4 (by decide) (by decide)]
          have f_34 : 0 ≤ Int32.toInt (q_23.1 2 2) ∧ Int32.toInt (q_23.1 2 2) ≤ 6 := rg_2_2 a_26
          have w_35 : Int32.toInt (q_23.1 2 2) = Int32.toInt (q_6.1 2 2) := by rw [a_27.1 2 2 (by decide) (by decide)]
          refine dOk_le (A := Int32.toInt (q_23.1 2 2)) (B := Int32.toInt x3_25) rfl rfl (fun c_36 => ?_) (fun c_37 => ?_)
          · refine dOk_L (fun q_38 eq_38 => ?_)
            try have t_39 : Int32.toInt (q_23.1 2 4 + 1) = Int32.toInt (q_23.1 2 4) + 1 := ti_add rfl (by decide) (by omega) (by omega)
            have hTq_38 : TC q_38 := by rw [eq_38]; exact st_2_4 a_26 (show (0 : Int) ≤ Int32.toInt (q_23.1 2 4 + 1) by omega) (show Int32.toInt (q_23.1 2 4 + 1) ≤ (1023 : Int) by omega)
            have hFq_38 : cFr [4, 19, 21] [(2, 4), (18, 1)] q q_38 := by rw [eq_38]; exact hFq_23.f (by decide)
            refine dOk_V (ok_J6_bitCount_0f7a4 x2_7) (fun r_40 h_41 => ?_)
            replace h_41 : (0 ≤ Int32.toInt r_40 ∧ Int32.toInt r_40 ≤ 63) := h_41
            have i_42 := h_41
            exact dOk_some (show (TC q_38) ∧ (cFr [4, 19, 21] [(2, 4), (18, 1)] q q_38) ∧ (-3 ≤ Int32.toInt r_40 ∧ Int32.toInt r_40 ≤ 63) from ⟨hTq_38, hFq_38, by omega⟩)
          · refine dOk_G (dg_ok (show 0 ≤ Int32.toInt x3_25 by omega) (show Int32.toInt x3_25 < ((6 : Nat) : Int) by omega)) ?_
            have n_43 : ((Int32.toNatClampNeg x3_25 : Nat) : Int) = Int32.toInt x3_25 := cl_eq (by omega)
            refine dOk_L (fun v_44 ev_44 => ?_)
            have f_45 : 0 ≤ Int32.toInt v_44 ∧ Int32.toInt v_44 ≤ 1 := by rw [ev_44]; exact rg_4 a_26 _
            refine dOk_G (dg_ok (show 0 ≤ Int32.toInt x3_25 by omega) (show Int32.toInt x3_25 < ((6 : Nat) : Int) by omega)) ?_
            refine dOk_L (fun q_46 eq_46 => ?_)
            try have t_47 := ti_shr (x := x2_7) (s := x3_25) (by omega)
            have t_48 := ti_and1 (x2_7 >>> ((x3_25 : Int32) &&& 31))
            try have t_49 := ti_xor1 (x := v_44) (y := x2_7 >>> ((x3_25 : Int32) &&& 31) &&& 1) (by omega) (by omega) (by omega) (by omega)
            have hTq_46 : TC q_46 := by rw [eq_46]; exact st_4 a_26 (show (0 : Int) ≤ Int32.toInt (v_44 ^^^ x2_7 >>> ((x3_25 : Int32) &&& 31) &&& 1) by omega) (show Int32.toInt (v_44 ^^^ x2_7 >>> ((x3_25 : Int32) &&& 31) &&& 1) ≤ (1 : Int) by omega)
            have hFq_46 : cFr [4, 19, 21] [(2, 4), (18, 1)] q q_46 := by rw [eq_46]; exact hFq_23.i (by decide)
            try have t_50 : Int32.toInt (x3_25 + 1) = Int32.toInt x3_25 + 1 := ti_add rfl (by decide) (by omega) (by omega)
            have f_51 : 0 ≤ Int32.toInt (q_46.1 2 4) ∧ Int32.toInt (q_46.1 2 4) ≤ 1023 := rg_2_4 hTq_46
            try have w_52 : Int32.toInt (q_46.1 2 4) = Int32.toInt (q_23.1 2 4) := by rw [eq_46, cui_o (by decide)]
            exact hk_21 (q_46, x2_7, (x3_25 + 1)) (show (TC q_46) ∧ (cFr [4] [] q_6 q_46) ∧ (x2_7 = x2_7) ∧ (0 ≤ Int32.toInt (x3_25 + 1)) ∧ (Int32.toInt (x3_25 + 1) ≤ 6) ∧ (Int32.toInt (q_46.1 2 4) < 999) from ⟨hTq_46, (by rw [eq_46]; exact (((cFr.rf : cFr [4] [] q_6 q_6).t a_27 (by decide) (by decide)) : cFr [4] [] q_6 q_23).i (by decide)), rfl, by omega, by omega, by omega⟩) (show (6 - Int32.toInt (x3_25 + 1)).toNat < (6 - Int32.toInt x3_25).toNat by omega)
        · exact (show (TC q_6) ∧ (cFr [4] [] q_6 q_6) ∧ (x2_7 = x2_7) ∧ (0 ≤ (0 : Int)) ∧ ((0 : Int) ≤ 6) ∧ (Int32.toInt (q_6.1 2 4) < 999) from ⟨a_9, cFr.rf, rfl, by omega, by omega, by omega⟩)
        · show (6 - (0 : Int)).toNat < 1000000000000
          omega
      · refine dOk_B (ok_X1_tips_s20_s2 q_6 x3_8 a_9) (fun r_53 q_54 h_55 => ?_)
        replace h_55 : (TC q_54) ∧ (cFr [19, 21] [(18, 1)] q_6 q_54) ∧ ((Int32.toInt r_53 = 0 ∨ Int32.toInt r_53 = 1)) := h_55
        obtain ⟨i_56, i_57, i_58⟩ := h_55
        have hFq_54 : cFr [4, 19, 21] [(2, 4), (18, 1)] q q_54 := hFq_6.t i_57 (by decide) (by decide)
        refine dOk_V (ok_X9_bit r_53) (fun r_59 h_60 => ?_)
        replace h_60 : ((Int32.toInt r_59 = 0 ∨ Int32.toInt r_59 = 1)) := h_60
        have i_61 := h_60
        try have t_62 := ti_shl5 (x := r_59) (s := x3_8) (by omega) (by omega) (by omega) (by omega)
        try have t_63 := ti_shl6 (x := r_59) (s := x3_8) (by omega) (by omega) (by omega) (by omega)
        try have t_64 := ti_or (x := x2_7) (y := r_59 <<< ((x3_8 : Int32) &&& 31)) 6 (by decide) (by omega) (by omega) (by omega) (by omega)
        try have t_65 : Int32.toInt (x3_8 + 1) = Int32.toInt x3_8 + 1 := ti_add rfl (by decide) (by omega) (by omega)
        have f_66 : 0 ≤ Int32.toInt (q_54.1 2 4) ∧ Int32.toInt (q_54.1 2 4) ≤ 1023 := rg_2_4 i_56
        have w_67 : Int32.toInt (q_54.1 2 4) = Int32.toInt (q_6.1 2 4) := by rw [i_57.1 2 4 (by decide) (by decide)]
        exact hk_4 (q_54, (x2_7 ||| r_59 <<< ((x3_8 : Int32) &&& 31)), (x3_8 + 1)) (show (TC q_54) ∧ (cFr [19, 21] [(18, 1)] q q_54) ∧ (0 ≤ Int32.toInt (x3_8 + 1)) ∧ (Int32.toInt (x3_8 + 1) ≤ 6) ∧ (Int32.toInt (q_54.1 2 4) < 999) from ⟨i_56, ((((cFr.rf : cFr [19, 21] [(18, 1)] q q).t a_10 (by decide) (by decide)) : cFr [19, 21] [(18, 1)] q q_6).t i_57 (by decide) (by decide)), by omega, by omega, by omega⟩) (show (6 - Int32.toInt (x3_8 + 1)).toNat < (6 - Int32.toInt x3_8).toNat by omega)
    · exact (show (TC q) ∧ (cFr [19, 21] [(18, 1)] q q) ∧ (0 ≤ (0 : Int)) ∧ ((0 : Int) ≤ 6) ∧ (Int32.toInt (q.1 2 4) < 999) from ⟨hT, cFr.rf, by omega, by omega, by omega⟩)
    · show (6 - (0 : Int)).toNat < 1000000000000
      omega
  · exact dOk_some (show (TC q) ∧ (cFr [4, 19, 21] [(2, 4), (18, 1)] q q) ∧ (-3 ≤ (-3 : Int) ∧ (-3 : Int) ≤ 63) from ⟨hT, (cFr.rf (q := q)), by omega⟩)

set_option maxHeartbeats 4000000 in
set_option maxRecDepth 100000 in
theorem ok_X8_act_s2_s20 (q : dK) (p1 : Int32) (p2 : Int32) (hT : TC q) : dOk (zX8_act_s2_s20 q p1 p2) (fun (o : Int32 × dK) => (TC o.2) ∧ (cFr [3, 4, 19, 21] [(2, 3), (2, 4), (18, 1)] q o.2) ∧ (-3 ≤ Int32.toInt o.1 ∧ Int32.toInt o.1 ≤ 99)) := by
  unfold zX8_act_s2_s20
  refine dOk_eq (A := Int32.toInt p1) (B := 0) rfl (by decide) (fun c_1z c_1 => ?_) (fun c_2z c_2 => ?_)
  · refine dOk_B (ok_X8_turnTop_s2_s20 q p2 hT) (fun r_4 q_5 h_6 => ?_)
    replace h_6 : (TC q_5) ∧ (cFr [3, 4, 19, 21] [(2, 3), (18, 1)] q q_5) ∧ (-3 ≤ Int32.toInt r_4 ∧ Int32.toInt r_4 ≤ 99) := h_6
    obtain ⟨i_7, i_8, i_9⟩ := h_6
    have hFq_5 : cFr [3, 4, 19, 21] [(2, 3), (2, 4), (18, 1)] q q_5 := (cFr.rf (q := q)).t i_8 (by decide) (by decide)
    exact dOk_some (show (TC q_5) ∧ (cFr [3, 4, 19, 21] [(2, 3), (2, 4), (18, 1)] q q_5) ∧ (-3 ≤ Int32.toInt r_4 ∧ Int32.toInt r_4 ≤ 99) from ⟨i_7, hFq_5, by omega⟩)
  · refine dOk_eq (A := Int32.toInt p1) (B := 1) rfl (by decide) (fun c_10z c_10 => ?_) (fun c_11z c_11 => ?_)
    · refine dOk_B (ok_X8_rightAt_s2 q p2 hT) (fun r_13 q_14 h_15 => ?_)
      replace h_15 : (TC q_14) ∧ (cFr [4] [] q q_14) ∧ (-3 ≤ Int32.toInt r_13 ∧ Int32.toInt r_13 ≤ 1) := h_15
      obtain ⟨i_16, i_17, i_18⟩ := h_15
      have hFq_14 : cFr [3, 4, 19, 21] [(2, 3), (2, 4), (18, 1)] q q_14 := (cFr.rf (q := q)).t i_17 (by decide) (by decide)
      exact dOk_some (show (TC q_14) ∧ (cFr [3, 4, 19, 21] [(2, 3), (2, 4), (18, 1)] q q_14) ∧ (-3 ≤ Int32.toInt r_13 ∧ Int32.toInt r_13 ≤ 99) from ⟨i_16, hFq_14, by omega⟩)
    · refine dOk_eq (A := Int32.toInt p1) (B := 2) rfl (by decide) (fun c_19z c_19 => ?_) (fun c_20z c_20 => ?_)
      · refine dOk_B (ok_X8_swapAt_s2 q p2 hT) (fun r_22 q_23 h_24 => ?_)
        replace h_24 : (TC q_23) ∧ (cFr [3, 4] [] q q_23) ∧ (-3 ≤ Int32.toInt r_22 ∧ Int32.toInt r_22 ≤ 7) := h_24
        obtain ⟨i_25, i_26, i_27⟩ := h_24
        have hFq_23 : cFr [3, 4, 19, 21] [(2, 3), (2, 4), (18, 1)] q q_23 := (cFr.rf (q := q)).t i_26 (by decide) (by decide)
        exact dOk_some (show (TC q_23) ∧ (cFr [3, 4, 19, 21] [(2, 3), (2, 4), (18, 1)] q q_23) ∧ (-3 ≤ Int32.toInt r_22 ∧ Int32.toInt r_22 ≤ 99) from ⟨i_25, hFq_23, by omega⟩)
      · refine dOk_eq (A := Int32.toInt p1) (B := 3) rfl (by decide) (fun c_28z c_28 => ?_) (fun c_29z c_29 => ?_)
        · refine dOk_B (ok_X8_passYear_s2_s20 q hT) (fun r_31 q_32 h_33 => ?_)
          replace h_33 : (TC q_32) ∧ (cFr [4, 19, 21] [(2, 4), (18, 1)] q q_32) ∧ (-3 ≤ Int32.toInt r_31 ∧ Int32.toInt r_31 ≤ 63) := h_33
          obtain ⟨i_34, i_35, i_36⟩ := h_33
          have hFq_32 : cFr [3, 4, 19, 21] [(2, 3), (2, 4), (18, 1)] q q_32 := (cFr.rf (q := q)).t i_35 (by decide) (by decide)
          exact dOk_some (show (TC q_32) ∧ (cFr [3, 4, 19, 21] [(2, 3), (2, 4), (18, 1)] q q_32) ∧ (-3 ≤ Int32.toInt r_31 ∧ Int32.toInt r_31 ≤ 99) from ⟨i_34, hFq_32, by omega⟩)
        · exact dOk_some (show (TC q) ∧ (cFr [3, 4, 19, 21] [(2, 3), (2, 4), (18, 1)] q q) ∧ (-3 ≤ (-3 : Int) ∧ (-3 : Int) ≤ 99) from ⟨hT, (cFr.rf (q := q)), by omega⟩)

set_option maxHeartbeats 4000000 in
set_option maxRecDepth 100000 in
theorem ok_X1_bars_s20_s15 (q : dK) (p2 : Int32) (hT : TC q) : dOk (zX1_bars_s20_s15 q p2) (fun (o : Int32 × dK) => (TC o.2) ∧ (cFr [19, 21] [(18, 1)] q o.2) ∧ ((Int32.toInt o.1 = 0 ∨ Int32.toInt o.1 = 1))) := by
  unfold zX1_bars_s20_s15
  refine dOk_V (ok_X1_setTurn_s20_s15 q p2 hT) (fun q_1 h_2 => ?_)
  replace h_2 : (TC q_1) ∧ (cFr [21] [] q q_1) ∧ (Int32.toInt (q_1.1 21 0) = Int32.toInt p2) := h_2
  obtain ⟨i_3, i_4, i_5⟩ := h_2
  have hFq_1 : cFr [19, 21] [(18, 1)] q q_1 := (cFr.rf (q := q)).t i_4 (by decide) (by decide)
  refine dOk_B (ok_X1_anyHolds_s20 q_1 1 i_3) (fun r_6 q_7 h_8 => ?_)
  replace h_8 : (TC q_7) ∧ (cFr [19] [(18, 1)] q_1 q_7) ∧ ((Int32.toInt r_6 = 0 ∨ Int32.toInt r_6 = 1)) := h_8
  obtain ⟨i_9, i_10, i_11⟩ := h_8
  have hFq_7 : cFr [19, 21] [(18, 1)] q q_7 := hFq_1.t i_10 (by decide) (by decide)
  refine dOk_G (dbl_ok (show Int32.toInt r_6 = 0 ∨ Int32.toInt r_6 = 1 by omega)) ?_
  exact dOk_some (show (TC q_7) ∧ (cFr [19, 21] [(18, 1)] q q_7) ∧ ((Int32.toInt r_6 = 0 ∨ Int32.toInt r_6 = 1)) from ⟨i_9, hFq_7, by omega⟩)

set_option maxHeartbeats 4000000 in
set_option maxRecDepth 100000 in
theorem ok_X1_payOf_s20_s15 (q : dK) (p2 : Int32) (hT : TC q) (hp0 : 0 ≤ Int32.toInt p2 ∧ Int32.toInt p2 ≤ 99) : dOk (zX1_payOf_s20_s15 q p2) (fun (o : Int32 × dK) => (TC o.2) ∧ (cFr [19, 21] [(18, 1)] q o.2) ∧ (0 ≤ Int32.toInt o.1 ∧ Int32.toInt o.1 ≤ 99)) := by
  unfold zX1_payOf_s20_s15
  refine dOk_V (ok_X1_setTurn_s20_s15 q p2 hT) (fun q_1 h_2 => ?_)
  replace h_2 : (TC q_1) ∧ (cFr [21] [] q q_1) ∧ (Int32.toInt (q_1.1 21 0) = Int32.toInt p2) := h_2
  obtain ⟨i_3, i_4, i_5⟩ := h_2
  have hFq_1 : cFr [19, 21] [(18, 1)] q q_1 := (cFr.rf (q := q)).t i_4 (by decide) (by decide)
  refine dOk_B (ok_X1_pay_s20 q_1 i_3 (show 0 ≤ Int32.toInt (q_1.1 21 0) by omega) (show Int32.toInt (q_1.1 21 0) ≤ 99 by omega)) (fun r_6 q_7 h_8 => ?_)
  replace h_8 : (TC q_7) ∧ (cFr [19] [(18, 1)] q_1 q_7) ∧ (0 ≤ Int32.toInt r_6 ∧ Int32.toInt r_6 ≤ 99) := h_8
  obtain ⟨i_9, i_10, i_11⟩ := h_8
  have hFq_7 : cFr [19, 21] [(18, 1)] q q_7 := hFq_1.t i_10 (by decide) (by decide)
  exact dOk_some (show (TC q_7) ∧ (cFr [19, 21] [(18, 1)] q q_7) ∧ (0 ≤ Int32.toInt r_6 ∧ Int32.toInt r_6 ≤ 99) from ⟨i_9, hFq_7, by omega⟩)

set_option maxHeartbeats 4000000 in
set_option maxRecDepth 100000 in
theorem ok_X1_tips_s20_s15 (q : dK) (p2 : Int32) (hT : TC q) : dOk (zX1_tips_s20_s15 q p2) (fun (o : Int32 × dK) => (TC o.2) ∧ (cFr [19, 21] [(18, 1)] q o.2) ∧ ((Int32.toInt o.1 = 0 ∨ Int32.toInt o.1 = 1))) := by
  unfold zX1_tips_s20_s15
  refine dOk_B (ok_X8_isFloor_s15 q p2 hT) (fun r_1 q_2 h_3 => ?_)
  replace h_3 : (q_2 = q) ∧ ((Int32.toInt r_1 = 1 ∧ 0 ≤ Int32.toInt p2 ∧ Int32.toInt p2 < Int32.toInt (q.1 15 2)) ∨ (Int32.toInt r_1 = 0 ∧ (Int32.toInt p2 < 0 ∨ Int32.toInt (q.1 15 2) ≤ Int32.toInt p2))) := h_3
  obtain ⟨i_4, i_5⟩ := h_3
  subst q_2
  have f_6 : 0 ≤ Int32.toInt (q.1 15 2) ∧ Int32.toInt (q.1 15 2) ≤ 6 := rg_15_2 hT
  refine dOk_eq (A := Int32.toInt r_1) (B := 0) rfl (by decide) (fun c_7z c_7 => ?_) (fun c_8z c_8 => ?_)
  · exact dOk_some (show (TC q) ∧ (cFr [19, 21] [(18, 1)] q q) ∧ (((0 : Int) = 0 ∨ (0 : Int) = 1)) from ⟨hT, (cFr.rf (q := q)), by omega⟩)
  · have f_10 : 0 ≤ Int32.toInt (q.1 15 4) ∧ Int32.toInt (q.1 15 4) ≤ 1023 := rg_15_4 hT
    refine dOk_V (ok_X1_setCommon_s20 q (q.1 15 2) (q.1 15 4) hT) (fun q_11 h_12 => ?_)
    replace h_12 : (TC q_11) ∧ (cFr [21] [] q q_11) := h_12
    obtain ⟨i_13, i_14⟩ := h_12
    have hFq_11 : cFr [19, 21] [(18, 1)] q q_11 := (cFr.rf (q := q)).t i_14 (by decide) (by decide)
    refine dOk_L (fun q_15 eq_15 => ?_)
    have hTq_15 : TC q_15 := by rw [eq_15]; exact sa_21 i_13
    have hFq_15 : cFr [19, 21] [(18, 1)] q q_15 := by rw [eq_15]; exact hFq_11.i (by decide)
    refine dOk_L (fun q_16 eq_16 => ?_)
    have hTq_16 : TC q_16 := by rw [eq_16]; exact sa_21 hTq_15
    have hFq_16 : cFr [19, 21] [(18, 1)] q q_16 := by rw [eq_16]; exact hFq_15.i (by decide)
    refine dOk_L (fun q_17 eq_17 => ?_)
    have hTq_17 : TC q_17 := by rw [eq_17]; exact sa_21 hTq_16
    have hFq_17 : cFr [19, 21] [(18, 1)] q q_17 := by rw [eq_17]; exact hFq_16.i (by decide)
    refine dOk_G (dg_ok (show 0 ≤ Int32.toInt p2 by omega) (show Int32.toInt p2 < ((6 : Nat) : Int) by omega)) ?_
    have n_18 : ((Int32.toNatClampNeg p2 : Nat) : Int) = Int32.toInt p2 := cl_eq (by omega)
    refine dOk_L (fun v_19 ev_19 => ?_)
    have f_20 : 0 ≤ Int32.toInt v_19 ∧ Int32.toInt v_19 ≤ 1 := by rw [ev_19]; exact rg_17 hTq_17 _
    refine dOk_L (fun q_21 eq_21 => ?_)
    have hTq_21 : TC q_21 := by rw [eq_21]; exact sa_21 hTq_17
    have hFq_21 : cFr [19, 21] [(18, 1)] q q_21 := by rw [eq_21]; exact hFq_17.i (by decide)
    refine dOk_G (dg_ok (show 0 ≤ Int32.toInt p2 by omega) (show Int32.toInt p2 < ((6 : Nat) : Int) by omega)) ?_
    refine dOk_L (fun v_22 ev_22 => ?_)
    have f_23 : 0 ≤ Int32.toInt v_22 ∧ Int32.toInt v_22 ≤ 7 := by rw [ev_22]; exact rg_16 hTq_21 _
    refine dOk_L (fun q_24 eq_24 => ?_)
    have hTq_24 : TC q_24 := by rw [eq_24]; exact sa_21 hTq_21
    have hFq_24 : cFr [19, 21] [(18, 1)] q q_24 := by rw [eq_24]; exact hFq_21.i (by decide)
    refine dOk_L (fun q_25 eq_25 => ?_)
    have hTq_25 : TC q_25 := by rw [eq_25]; exact sa_21 hTq_24
    have hFq_25 : cFr [19, 21] [(18, 1)] q q_25 := by rw [eq_25]; exact hFq_24.i (by decide)
    refine dOk_B (ok_X1_anyHolds_s20 q_25 2 hTq_25) (fun r_26 q_27 h_28 => ?_)
    replace h_28 : (TC q_27) ∧ (cFr [19] [(18, 1)] q_25 q_27) ∧ ((Int32.toInt r_26 = 0 ∨ Int32.toInt r_26 = 1)) := h_28
    obtain ⟨i_29, i_30, i_31⟩ := h_28
    have hFq_27 : cFr [19, 21] [(18, 1)] q q_27 := hFq_25.t i_30 (by decide) (by decide)
    refine dOk_G (dbl_ok (show Int32.toInt r_26 = 0 ∨ Int32.toInt r_26 = 1 by omega)) ?_
    exact dOk_some (show (TC q_27) ∧ (cFr [19, 21] [(18, 1)] q q_27) ∧ ((Int32.toInt r_26 = 0 ∨ Int32.toInt r_26 = 1)) from ⟨i_29, hFq_27, by omega⟩)

set_option maxHeartbeats 4000000 in
set_option maxRecDepth 100000 in
theorem ok_X8_turnTop_s15_s20 (q : dK) (p1 : Int32) (hT : TC q) : dOk (zX8_turnTop_s15_s20 q p1) (fun (o : Int32 × dK) => (TC o.2) ∧ (cFr [16, 17, 19, 21] [(15, 3), (18, 1)] q o.2) ∧ (-3 ≤ Int32.toInt o.1 ∧ Int32.toInt o.1 ≤ 99)) := by
  unfold zX8_turnTop_s15_s20
  refine dOk_lt (A := Int32.toInt p1) (B := 1) rfl (by decide) (fun c_1 => ?_) (fun c_2 => ?_)
  · unfold zX8_turnTop_s15_s20_11
    exact dOk_some (show (TC q) ∧ (cFr [16, 17, 19, 21] [(15, 3), (18, 1)] q q) ∧ (-3 ≤ (-1 : Int) ∧ (-1 : Int) ≤ 99) from ⟨hT, (cFr.rf (q := q)), by omega⟩)
  · refine dOk_le (A := Int32.toInt p1) (B := 6) rfl (by decide) (fun c_3 => ?_) (fun c_4 => ?_)
    · have f_5 : 0 ≤ Int32.toInt (q.1 15 2) ∧ Int32.toInt (q.1 15 2) ≤ 6 := rg_15_2 hT
      refine dOk_lt (A := Int32.toInt (q.1 15 2)) (B := Int32.toInt p1) rfl rfl (fun c_6 => ?_) (fun c_7 => ?_)
      · unfold zX8_turnTop_s15_s20_30
        exact dOk_some (show (TC q) ∧ (cFr [16, 17, 19, 21] [(15, 3), (18, 1)] q q) ∧ (-3 ≤ (-3 : Int) ∧ (-3 : Int) ≤ 99) from ⟨hT, (cFr.rf (q := q)), by omega⟩)
      · refine dOk_B (ok_X1_bars_s20_s15 q p1 hT) (fun r_8 q_9 h_10 => ?_)
        replace h_10 : (TC q_9) ∧ (cFr [19, 21] [(18, 1)] q q_9) ∧ ((Int32.toInt r_8 = 0 ∨ Int32.toInt r_8 = 1)) := h_10
        obtain ⟨i_11, i_12, i_13⟩ := h_10
        have hFq_9 : cFr [16, 17, 19, 21] [(15, 3), (18, 1)] q q_9 := (cFr.rf (q := q)).t i_12 (by decide) (by decide)
        refine dOk_eq (A := Int32.toInt r_8) (B := 0) rfl (by decide) (fun c_14z c_14 => ?_) (fun c_15z c_15 => ?_)
        · refine dOk_B (ok_X1_payOf_s20_s15 q_9 p1 i_11 (show 0 ≤ Int32.toInt p1 ∧ Int32.toInt p1 ≤ 99 by omega)) (fun r_17 q_18 h_19 => ?_)
          replace h_19 : (TC q_18) ∧ (cFr [19, 21] [(18, 1)] q_9 q_18) ∧ (0 ≤ Int32.toInt r_17 ∧ Int32.toInt r_17 ≤ 99) := h_19
          obtain ⟨i_20, i_21, i_22⟩ := h_19
          have hFq_18 : cFr [16, 17, 19, 21] [(15, 3), (18, 1)] q q_18 := hFq_9.t i_21 (by decide) (by decide)
          unfold zX8_turnTop_s15_s20_48
          refine dFix_ok (fun (a : dK × Int32 × Int32 × Int32 × Int32) => (TC a.1) ∧ (cFr [16, 17] [] q_18 a.1) ∧ (a.2.1 = p1) ∧ (a.2.2.1 = r_17) ∧ (0 ≤ Int32.toInt a.2.2.2.1) ∧ (Int32.toInt a.2.2.2.1 ≤ 6) ∧ (-1 ≤ Int32.toInt a.2.2.2.2) ∧ (Int32.toInt a.2.2.2.2 ≤ 5)) (fun (a : dK × Int32 × Int32 × Int32 × Int32) => (Int32.toInt a.2.2.2.2 - Int32.toInt a.2.2.2.1 + 8).toNat) ?_ _ ?_ _ (dF_gt ?_)
          · intro a ha k_24 hk_23
            obtain ⟨q_25, x1_26, x3_27, x4_28, x5_29⟩ := a
            replace ha : (TC q_25) ∧ (cFr [16, 17] [] q_18 q_25) ∧ (x1_26 = p1) ∧ (x3_27 = r_17) ∧ (0 ≤ Int32.toInt x4_28) ∧ (Int32.toInt x4_28 ≤ 6) ∧ (-1 ≤ Int32.toInt x5_29) ∧ (Int32.toInt x5_29 ≤ 5) := ha
            obtain ⟨a_30, a_31, a_32, a_33, a_34, a_35, a_36, a_37⟩ := ha
            show dOk (zX8_turnTop_s15_s20_48b  (fun q x1 x3 x4 x5 => k_24 (q, x1, x3, x4, x5)) q_25 x1_26 x3_27 x4_28 x5_29) _
            unfold zX8_turnTop_s15_s20_48b
            have hFq_25 : cFr [16, 17, 19, 21] [(15, 3), (18, 1)] q q_25 := hFq_18.t a_31 (by decide) (by decide)
            subst x1_26
            subst x3_27
            refine dOk_le (A := Int32.toInt x5_29) (B := Int32.toInt x4_28) rfl rfl (fun c_38 => ?_) (fun c_39 => ?_)
            · unfold zX8_turnTop_s15_s20_75
              refine dFix_ok (fun (a : dK × Int32 × Int32 × Int32) => (TC a.1) ∧ (cFr [17] [] q_25 a.1) ∧ (a.2.1 = p1) ∧ (a.2.2.1 = r_17) ∧ (0 ≤ Int32.toInt a.2.2.2) ∧ (Int32.toInt a.2.2.2 ≤ 6)) (fun (a : dK × Int32 × Int32 × Int32) => (6 - Int32.toInt a.2.2.2).toNat) ?_ _ ?_ _ (dF_gt ?_)
              · intro a ha k_41 hk_40
                obtain ⟨q_42, x1_43, x3_44, x4_45⟩ := a
                replace ha : (TC q_42) ∧ (cFr [17] [] q_25 q_42) ∧ (x1_43 = p1) ∧ (x3_44 = r_17) ∧ (0 ≤ Int32.toInt x4_45) ∧ (Int32.toInt x4_45 ≤ 6) := ha
                obtain ⟨a_46, a_47, a_48, a_49, a_50, a_51⟩ := ha
                show dOk (zX8_turnTop_s15_s20_75b  (fun q x1 x3 x4 => k_41 (q, x1, x3, x4)) q_42 x1_43 x3_44 x4_45) _
                unfold zX8_turnTop_s15_s20_75b
                have hFq_42 : cFr [16, 17, 19, 21] [(15, 3), (18, 1)] q q_42 := hFq_25.t a_47 (by decide) (by decide)
                subst x1_43
                subst x3_44
                refine dOk_le (A := Int32.toInt p1) (B := Int32.toInt x4_45) rfl rfl (fun c_52 => ?_) (fun c_53 => ?_)
                · refine dOk_L (fun q_54 eq_54 => ?_)
                  have f_55 : 0 ≤ Int32.toInt (q_42.1 15 3) ∧ Int32.toInt (q_42.1 15 3) ≤ 16383 := rg_15_3 a_46
                  have f_56 : 0 ≤ Int32.toInt (q_25.1 15 3) ∧ Int32.toInt (q_25.1 15 3) ≤ 16383 := rg_15_3 a_30
                  have f_57 : 0 ≤ Int32.toInt (q_18.1 15 3) ∧ Int32.toInt (q_18.1 15 3) ≤ 16383 := rg_15_3 i_20
                  have f_58 : 0 ≤ Int32.toInt (q_9.1 15 3) ∧ Int32.toInt (q_9.1 15 3) ≤ 16383 := rg_15_3 i_11
                  have f_59 : 0 ≤ Int32.toInt (q.1 15 3) ∧ Int32.toInt (q.1 15 3) ≤ 16383 := rg_15_3 hT
                  have w_60 : Int32.toInt (q_9.1 15 3) = Int32.toInt (q.1 15 3) := by rw [i_12.1 15 3 (by decide) (by decide)]
                  have w_61 : Int32.toInt (q_18.1 15 3) = Int32.toInt (q_9.1 15 3) := by rw [i_21.1 15 3 (by decide) (by decide)]
                  have w_62 : Int32.toInt (q_25.1 15 3) = Int32.toInt (q_18.1 15 3) := by rw [a_31.1 15 3 (by decide) (by decide)]
                  have w_63 : Int32.toInt (q_42.1 15 3) = Int32.toInt (q_25.1 15 3) := by rw [a_47.1 15 3 (by decide) (by decide)]
                  try have t_64 : Int32.toInt (q_42.1 15 3 + r_17) = Int32.toInt (q_42.1 15 3) + Int32.toInt r_17 := ti_add rfl rfl (by omega) (by omega)
                  have t_65 : Int32.toInt (mnI 9999 (q_42.1 15 3 + r_17)) ≤ 9999 ∧ Int32.toInt (mnI 9999 (q_42.1 15 3 + r_17)) ≤ Int32.toInt (q_42.1 15 3 + r_17) ∧ (Int32.toInt (mnI 9999 (q_42.1 15 3 + r_17)) = 9999 ∨ Int32.toInt (mnI 9999 (q_42.1 15 3 + r_17)) = Int32.toInt (q_42.1 15 3 + r_17)) := mn_k (by decide)
                  have hTq_54 : TC q_54 := by rw [eq_54]; exact st_15_3 a_46 (show (0 : Int) ≤ Int32.toInt (mnI 9999 (q_42.1 15 3 + r_17)) by omega) (show Int32.toInt (mnI 9999 (q_42.1 15 3 + r_17)) ≤ (16383 : Int) by omega)
                  have hFq_54 : cFr [16, 17, 19, 21] [(15, 3), (18, 1)] q q_54 := by rw [eq_54]; exact hFq_42.f (by decide)
                  exact dOk_some (show (TC q_54) ∧ (cFr [16, 17, 19, 21] [(15, 3), (18, 1)] q q_54) ∧ (-3 ≤ Int32.toInt r_17 ∧ Int32.toInt r_17 ≤ 99) from ⟨hTq_54, hFq_54, by omega⟩)
                · refine dOk_G (dg_ok (show 0 ≤ Int32.toInt x4_45 by omega) (show Int32.toInt x4_45 < ((6 : Nat) : Int) by omega)) ?_
                  have n_66 : ((Int32.toNatClampNeg x4_45 : Nat) : Int) = Int32.toInt x4_45 := cl_eq (by omega)
                  refine dOk_L (fun v_67 ev_67 => ?_)
                  have f_68 : 0 ≤ Int32.toInt v_67 ∧ Int32.toInt v_67 ≤ 1 := by rw [ev_67]; exact rg_17 a_46 _
                  refine dOk_G (dg_ok (show 0 ≤ Int32.toInt x4_45 by omega) (show Int32.toInt x4_45 < ((6 : Nat) : Int) by omega)) ?_
                  refine dOk_L (fun q_69 eq_69 => ?_)
                  try have t_70 : Int32.toInt (1 - v_67) = 1 - Int32.toInt v_67 := ti_sub (by decide) rfl (by omega) (by omega)
                  have hTq_69 : TC q_69 := by rw [eq_69]; exact st_17 a_46 (show (0 : Int) ≤ Int32.toInt (1 - v_67) by omega) (show Int32.toInt (1 - v_67) ≤ (1 : Int) by omega)
                  have hFq_69 : cFr [16, 17, 19, 21] [(15, 3), (18, 1)] q q_69 := by rw [eq_69]; exact hFq_42.i (by decide)
                  try have t_71 : Int32.toInt (x4_45 + 1) = Int32.toInt x4_45 + 1 := ti_add rfl (by decide) (by omega) (by omega)
                  exact hk_40 (q_69, p1, r_17, (x4_45 + 1)) (show (TC q_69) ∧ (cFr [17] [] q_25 q_69) ∧ (p1 = p1) ∧ (r_17 = r_17) ∧ (0 ≤ Int32.toInt (x4_45 + 1)) ∧ (Int32.toInt (x4_45 + 1) ≤ 6) from ⟨hTq_69, (by rw [eq_69]; exact (((cFr.rf : cFr [17] [] q_25 q_25).t a_47 (by decide) (by decide)) : cFr [17] [] q_25 q_42).i (by decide)), rfl, rfl, by omega, by omega⟩) (show (6 - Int32.toInt (x4_45 + 1)).toNat < (6 - Int32.toInt x4_45).toNat by omega)
              · exact (show (TC q_25) ∧ (cFr [17] [] q_25 q_25) ∧ (p1 = p1) ∧ (r_17 = r_17) ∧ (0 ≤ (0 : Int)) ∧ ((0 : Int) ≤ 6) from ⟨a_30, cFr.rf, rfl, rfl, by omega, by omega⟩)
              · show (6 - (0 : Int)).toNat < 1000000000000
                omega
            · refine dOk_V (ok_X8_exchange_s15 q_25 x4_28 x5_29 a_30 (show 0 ≤ Int32.toInt x4_28 ∧ Int32.toInt x4_28 ≤ 5 by omega) (show 0 ≤ Int32.toInt x5_29 ∧ Int32.toInt x5_29 ≤ 5 by omega)) (fun q_72 h_73 => ?_)
              replace h_73 : (TC q_72) ∧ (cFr [16, 17] [] q_25 q_72) := h_73
              obtain ⟨i_74, i_75⟩ := h_73
              have hFq_72 : cFr [16, 17, 19, 21] [(15, 3), (18, 1)] q q_72 := hFq_25.t i_75 (by decide) (by decide)
              try have t_76 : Int32.toInt (x4_28 + 1) = Int32.toInt x4_28 + 1 := ti_add rfl (by decide) (by omega) (by omega)
              try have t_77 : Int32.toInt (x5_29 + (-1)) = Int32.toInt x5_29 + (-1) := ti_add rfl (by decide) (by omega) (by omega)
              exact hk_23 (q_72, p1, r_17, (x4_28 + 1), (x5_29 + (-1))) (show (TC q_72) ∧ (cFr [16, 17] [] q_18 q_72) ∧ (p1 = p1) ∧ (r_17 = r_17) ∧ (0 ≤ Int32.toInt (x4_28 + 1)) ∧ (Int32.toInt (x4_28 + 1) ≤ 6) ∧ (-1 ≤ Int32.toInt (x5_29 + (-1))) ∧ (Int32.toInt (x5_29 + (-1)) ≤ 5) from ⟨i_74, ((((cFr.rf : cFr [16, 17] [] q_18 q_18).t a_31 (by decide) (by decide)) : cFr [16, 17] [] q_18 q_25).t i_75 (by decide) (by decide)), rfl, rfl, by omega, by omega, by omega, by omega⟩) (show (Int32.toInt (x5_29 + (-1)) - Int32.toInt (x4_28 + 1) + 8).toNat < (Int32.toInt x5_29 - Int32.toInt x4_28 + 8).toNat by omega)
          · try have t_78 : Int32.toInt (p1 - 1) = Int32.toInt p1 - 1 := ti_sub rfl (by decide) (by omega) (by omega)
            exact (show (TC q_18) ∧ (cFr [16, 17] [] q_18 q_18) ∧ (p1 = p1) ∧ (r_17 = r_17) ∧ (0 ≤ (0 : Int)) ∧ ((0 : Int) ≤ 6) ∧ (-1 ≤ Int32.toInt (p1 - 1)) ∧ (Int32.toInt (p1 - 1) ≤ 5) from ⟨i_20, cFr.rf, rfl, rfl, by omega, by omega, by omega, by omega⟩)
          · try have t_79 : Int32.toInt (p1 - 1) = Int32.toInt p1 - 1 := ti_sub rfl (by decide) (by omega) (by omega)
            show (Int32.toInt (p1 - 1) - (0 : Int) + 8).toNat < 1000000000000
            omega
        · unfold zX8_turnTop_s15_s20_30
          exact dOk_some (show (TC q_9) ∧ (cFr [16, 17, 19, 21] [(15, 3), (18, 1)] q q_9) ∧ (-3 ≤ (-3 : Int) ∧ (-3 : Int) ≤ 99) from ⟨i_11, hFq_9, by omega⟩)
    · unfold zX8_turnTop_s15_s20_11
      exact dOk_some (show (TC q) ∧ (cFr [16, 17, 19, 21] [(15, 3), (18, 1)] q q) ∧ (-3 ≤ (-1 : Int) ∧ (-1 : Int) ≤ 99) from ⟨hT, (cFr.rf (q := q)), by omega⟩)

set_option maxHeartbeats 4000000 in
set_option maxRecDepth 100000 in
theorem ok_X8_passYear_s15_s20 (q : dK) (hT : TC q) : dOk (zX8_passYear_s15_s20 q) (fun (o : Int32 × dK) => (TC o.2) ∧ (cFr [17, 19, 21] [(15, 4), (18, 1)] q o.2) ∧ (-3 ≤ Int32.toInt o.1 ∧ Int32.toInt o.1 ≤ 63)) := by
  unfold zX8_passYear_s15_s20
  have f_1 : 0 ≤ Int32.toInt (q.1 15 4) ∧ Int32.toInt (q.1 15 4) ≤ 1023 := rg_15_4 hT
  refine dOk_lt (A := Int32.toInt (q.1 15 4)) (B := 999) rfl (by decide) (fun c_2 => ?_) (fun c_3 => ?_)
  · unfold zX8_passYear_s15_s20_17
    refine dFix_ok (fun (a : dK × Int32 × Int32) => (TC a.1) ∧ (cFr [19, 21] [(18, 1)] q a.1) ∧ (0 ≤ Int32.toInt a.2.2) ∧ (Int32.toInt a.2.2 ≤ 6) ∧ (Int32.toInt (a.1.1 15 4) < 999)) (fun (a : dK × Int32 × Int32) => (6 - Int32.toInt a.2.2).toNat) ?_ _ ?_ _ (dF_gt ?_)
    · intro a ha k_5 hk_4
      obtain ⟨q_6, x2_7, x3_8⟩ := a
      replace ha : (TC q_6) ∧ (cFr [19, 21] [(18, 1)] q q_6) ∧ (0 ≤ Int32.toInt x3_8) ∧ (Int32.toInt x3_8 ≤ 6) ∧ (Int32.toInt (q_6.1 15 4) < 999) := ha
      obtain ⟨a_9, a_10, a_11, a_12, a_13⟩ := ha
      show dOk (zX8_passYear_s15_s20_17b  (fun q x2 x3 => k_5 (q, x2, x3)) q_6 x2_7 x3_8) _
      unfold zX8_passYear_s15_s20_17b
      have hFq_6 : cFr [17, 19, 21] [(15, 4), (18, 1)] q q_6 := (cFr.rf (q := q)).t a_10 (by decide) (by decide)
      have f_14 : 0 ≤ Int32.toInt (q_6.1 15 4) ∧ Int32.toInt (q_6.1 15 4) ≤ 1023 := rg_15_4 a_9
      have w_15 : Int32.toInt (q_6.1 15 4) = Int32.toInt (q.1 15 4) := by rw [a_10.1 15 4 (by decide) (by decide)]
      have f_16 : 0 ≤ Int32.toInt (q_6.1 15 2) ∧ Int32.toInt (q_6.1 15 2) ≤ 6 := rg_15_2 a_9
      have f_17 : 0 ≤ Int32.toInt (q.1 15 2) ∧ Int32.toInt (q.1 15 2) ≤ 6 := rg_15_2 hT
      have w_18 : Int32.toInt (q_6.1 15 2) = Int32.toInt (q.1 15 2) := by rw [a_10.1 15 2 (by decide) (by decide)]
      refine dOk_le (A := Int32.toInt (q_6.1 15 2)) (B := Int32.toInt x3_8) rfl rfl (fun c_19 => ?_) (fun c_20 => ?_)
      · unfold zX8_passYear_s15_s20_47
        refine dFix_ok (fun (a : dK × Int32 × Int32) => (TC a.1) ∧ (cFr [17] [] q_6 a.1) ∧ (a.2.1 = x2_7) ∧ (0 ≤ Int32.toInt a.2.2) ∧ (Int32.toInt a.2.2 ≤ 6) ∧ (Int32.toInt (a.1.1 15 4) < 999)) (fun (a : dK × Int32 × Int32) => (6 - Int32.toInt a.2.2).toNat) ?_ _ ?_ _ (dF_gt ?_)
        · intro a ha k_22 hk_21
          obtain ⟨q_23, x2_24, x3_25⟩ := a
          replace ha : (TC q_23) ∧ (cFr [17] [] q_6 q_23) ∧ (x2_24 = x2_7) ∧ (0 ≤ Int32.toInt x3_25) ∧ (Int32.toInt x3_25 ≤ 6) ∧ (Int32.toInt (q_23.1 15 4) < 999) := ha
          obtain ⟨a_26, a_27, a_28, a_29, a_30, a_31⟩ := ha
          show dOk (zX8_passYear_s15_s20_47b  (fun q x2 x3 => k_22 (q, x2, x3)) q_23 x2_24 x3_25) _
          unfold zX8_passYear_s15_s20_47b
          have hFq_23 : cFr [17, 19, 21] [(15, 4), (18, 1)] q q_23 := hFq_6.t a_27 (by decide) (by decide)
          subst x2_24
          have f_32 : 0 ≤ Int32.toInt (q_23.1 15 4) ∧ Int32.toInt (q_23.1 15 4) ≤ 1023 := rg_15_4 a_26
          have w_33 : Int32.toInt (q_23.1 15 4) = Int32.toInt (q_6.1 15 4) := by rw [a_27.1 15 4 (by decide) (by decide)]
          have f_34 : 0 ≤ Int32.toInt (q_23.1 15 2) ∧ Int32.toInt (q_23.1 15 2) ≤ 6 := rg_15_2 a_26
          have w_35 : Int32.toInt (q_23.1 15 2) = Int32.toInt (q_6.1 15 2) := by rw [a_27.1 15 2 (by decide) (by decide)]
          refine dOk_le (A := Int32.toInt (q_23.1 15 2)) (B := Int32.toInt x3_25) rfl rfl (fun c_36 => ?_) (fun c_37 => ?_)
          · refine dOk_L (fun q_38 eq_38 => ?_)
            try have t_39 : Int32.toInt (q_23.1 15 4 + 1) = Int32.toInt (q_23.1 15 4) + 1 := ti_add rfl (by decide) (by omega) (by omega)
            have hTq_38 : TC q_38 := by rw [eq_38]; exact st_15_4 a_26 (show (0 : Int) ≤ Int32.toInt (q_23.1 15 4 + 1) by omega) (show Int32.toInt (q_23.1 15 4 + 1) ≤ (1023 : Int) by omega)
            have hFq_38 : cFr [17, 19, 21] [(15, 4), (18, 1)] q q_38 := by rw [eq_38]; exact hFq_23.f (by decide)
            refine dOk_V (ok_J6_bitCount_0f7a4 x2_7) (fun r_40 h_41 => ?_)
            replace h_41 : (0 ≤ Int32.toInt r_40 ∧ Int32.toInt r_40 ≤ 63) := h_41
            have i_42 := h_41
            exact dOk_some (show (TC q_38) ∧ (cFr [17, 19, 21] [(15, 4), (18, 1)] q q_38) ∧ (-3 ≤ Int32.toInt r_40 ∧ Int32.toInt r_40 ≤ 63) from ⟨hTq_38, hFq_38, by omega⟩)
          · refine dOk_G (dg_ok (show 0 ≤ Int32.toInt x3_25 by omega) (show Int32.toInt x3_25 < ((6 : Nat) : Int) by omega)) ?_
            have n_43 : ((Int32.toNatClampNeg x3_25 : Nat) : Int) = Int32.toInt x3_25 := cl_eq (by omega)
            refine dOk_L (fun v_44 ev_44 => ?_)
            have f_45 : 0 ≤ Int32.toInt v_44 ∧ Int32.toInt v_44 ≤ 1 := by rw [ev_44]; exact rg_17 a_26 _
            refine dOk_G (dg_ok (show 0 ≤ Int32.toInt x3_25 by omega) (show Int32.toInt x3_25 < ((6 : Nat) : Int) by omega)) ?_
            refine dOk_L (fun q_46 eq_46 => ?_)
            try have t_47 := ti_shr (x := x2_7) (s := x3_25) (by omega)
            have t_48 := ti_and1 (x2_7 >>> ((x3_25 : Int32) &&& 31))
            try have t_49 := ti_xor1 (x := v_44) (y := x2_7 >>> ((x3_25 : Int32) &&& 31) &&& 1) (by omega) (by omega) (by omega) (by omega)
            have hTq_46 : TC q_46 := by rw [eq_46]; exact st_17 a_26 (show (0 : Int) ≤ Int32.toInt (v_44 ^^^ x2_7 >>> ((x3_25 : Int32) &&& 31) &&& 1) by omega) (show Int32.toInt (v_44 ^^^ x2_7 >>> ((x3_25 : Int32) &&& 31) &&& 1) ≤ (1 : Int) by omega)
            have hFq_46 : cFr [17, 19, 21] [(15, 4), (18, 1)] q q_46 := by rw [eq_46]; exact hFq_23.i (by decide)
            try have t_50 : Int32.toInt (x3_25 + 1) = Int32.toInt x3_25 + 1 := ti_add rfl (by decide) (by omega) (by omega)
            have f_51 : 0 ≤ Int32.toInt (q_46.1 15 4) ∧ Int32.toInt (q_46.1 15 4) ≤ 1023 := rg_15_4 hTq_46
            try have w_52 : Int32.toInt (q_46.1 15 4) = Int32.toInt (q_23.1 15 4) := by rw [eq_46, cui_o (by decide)]
            exact hk_21 (q_46, x2_7, (x3_25 + 1)) (show (TC q_46) ∧ (cFr [17] [] q_6 q_46) ∧ (x2_7 = x2_7) ∧ (0 ≤ Int32.toInt (x3_25 + 1)) ∧ (Int32.toInt (x3_25 + 1) ≤ 6) ∧ (Int32.toInt (q_46.1 15 4) < 999) from ⟨hTq_46, (by rw [eq_46]; exact (((cFr.rf : cFr [17] [] q_6 q_6).t a_27 (by decide) (by decide)) : cFr [17] [] q_6 q_23).i (by decide)), rfl, by omega, by omega, by omega⟩) (show (6 - Int32.toInt (x3_25 + 1)).toNat < (6 - Int32.toInt x3_25).toNat by omega)
        · exact (show (TC q_6) ∧ (cFr [17] [] q_6 q_6) ∧ (x2_7 = x2_7) ∧ (0 ≤ (0 : Int)) ∧ ((0 : Int) ≤ 6) ∧ (Int32.toInt (q_6.1 15 4) < 999) from ⟨a_9, cFr.rf, rfl, by omega, by omega, by omega⟩)
        · show (6 - (0 : Int)).toNat < 1000000000000
          omega
      · refine dOk_B (ok_X1_tips_s20_s15 q_6 x3_8 a_9) (fun r_53 q_54 h_55 => ?_)
        replace h_55 : (TC q_54) ∧ (cFr [19, 21] [(18, 1)] q_6 q_54) ∧ ((Int32.toInt r_53 = 0 ∨ Int32.toInt r_53 = 1)) := h_55
        obtain ⟨i_56, i_57, i_58⟩ := h_55
        have hFq_54 : cFr [17, 19, 21] [(15, 4), (18, 1)] q q_54 := hFq_6.t i_57 (by decide) (by decide)
        refine dOk_V (ok_X9_bit r_53) (fun r_59 h_60 => ?_)
        replace h_60 : ((Int32.toInt r_59 = 0 ∨ Int32.toInt r_59 = 1)) := h_60
        have i_61 := h_60
        try have t_62 := ti_shl5 (x := r_59) (s := x3_8) (by omega) (by omega) (by omega) (by omega)
        try have t_63 := ti_shl6 (x := r_59) (s := x3_8) (by omega) (by omega) (by omega) (by omega)
        try have t_64 := ti_or (x := x2_7) (y := r_59 <<< ((x3_8 : Int32) &&& 31)) 6 (by decide) (by omega) (by omega) (by omega) (by omega)
        try have t_65 : Int32.toInt (x3_8 + 1) = Int32.toInt x3_8 + 1 := ti_add rfl (by decide) (by omega) (by omega)
        have f_66 : 0 ≤ Int32.toInt (q_54.1 15 4) ∧ Int32.toInt (q_54.1 15 4) ≤ 1023 := rg_15_4 i_56
        have w_67 : Int32.toInt (q_54.1 15 4) = Int32.toInt (q_6.1 15 4) := by rw [i_57.1 15 4 (by decide) (by decide)]
        exact hk_4 (q_54, (x2_7 ||| r_59 <<< ((x3_8 : Int32) &&& 31)), (x3_8 + 1)) (show (TC q_54) ∧ (cFr [19, 21] [(18, 1)] q q_54) ∧ (0 ≤ Int32.toInt (x3_8 + 1)) ∧ (Int32.toInt (x3_8 + 1) ≤ 6) ∧ (Int32.toInt (q_54.1 15 4) < 999) from ⟨i_56, ((((cFr.rf : cFr [19, 21] [(18, 1)] q q).t a_10 (by decide) (by decide)) : cFr [19, 21] [(18, 1)] q q_6).t i_57 (by decide) (by decide)), by omega, by omega, by omega⟩) (show (6 - Int32.toInt (x3_8 + 1)).toNat < (6 - Int32.toInt x3_8).toNat by omega)
    · exact (show (TC q) ∧ (cFr [19, 21] [(18, 1)] q q) ∧ (0 ≤ (0 : Int)) ∧ ((0 : Int) ≤ 6) ∧ (Int32.toInt (q.1 15 4) < 999) from ⟨hT, cFr.rf, by omega, by omega, by omega⟩)
    · show (6 - (0 : Int)).toNat < 1000000000000
      omega
  · exact dOk_some (show (TC q) ∧ (cFr [17, 19, 21] [(15, 4), (18, 1)] q q) ∧ (-3 ≤ (-3 : Int) ∧ (-3 : Int) ≤ 63) from ⟨hT, (cFr.rf (q := q)), by omega⟩)
end
section
set_option maxHeartbeats 4000000 in
set_option maxRecDepth 100000 in
theorem ok_X8_act_s15_s20 (q : dK) (p1 : Int32) (p2 : Int32) (hT : TC q) : dOk (zX8_act_s15_s20 q p1 p2) (fun (o : Int32 × dK) => (TC o.2) ∧ (cFr [16, 17, 19, 21] [(15, 3), (15, 4), (18, 1)] q o.2) ∧ (-3 ≤ Int32.toInt o.1 ∧ Int32.toInt o.1 ≤ 99)) := by
  unfold zX8_act_s15_s20
  refine dOk_eq (A := Int32.toInt p1) (B := 0) rfl (by decide) (fun c_1z c_1 => ?_) (fun c_2z c_2 => ?_)
  · refine dOk_B (ok_X8_turnTop_s15_s20 q p2 hT) (fun r_4 q_5 h_6 => ?_)
    replace h_6 : (TC q_5) ∧ (cFr [16, 17, 19, 21] [(15, 3), (18, 1)] q q_5) ∧ (-3 ≤ Int32.toInt r_4 ∧ Int32.toInt r_4 ≤ 99) := h_6
    obtain ⟨i_7, i_8, i_9⟩ := h_6
    have hFq_5 : cFr [16, 17, 19, 21] [(15, 3), (15, 4), (18, 1)] q q_5 := (cFr.rf (q := q)).t i_8 (by decide) (by decide)
    exact dOk_some (show (TC q_5) ∧ (cFr [16, 17, 19, 21] [(15, 3), (15, 4), (18, 1)] q q_5) ∧ (-3 ≤ Int32.toInt r_4 ∧ Int32.toInt r_4 ≤ 99) from ⟨i_7, hFq_5, by omega⟩)
  · refine dOk_eq (A := Int32.toInt p1) (B := 1) rfl (by decide) (fun c_10z c_10 => ?_) (fun c_11z c_11 => ?_)
    · refine dOk_B (ok_X8_rightAt_s15 q p2 hT) (fun r_13 q_14 h_15 => ?_)
      replace h_15 : (TC q_14) ∧ (cFr [17] [] q q_14) ∧ (-3 ≤ Int32.toInt r_13 ∧ Int32.toInt r_13 ≤ 1) := h_15
      obtain ⟨i_16, i_17, i_18⟩ := h_15
      have hFq_14 : cFr [16, 17, 19, 21] [(15, 3), (15, 4), (18, 1)] q q_14 := (cFr.rf (q := q)).t i_17 (by decide) (by decide)
      exact dOk_some (show (TC q_14) ∧ (cFr [16, 17, 19, 21] [(15, 3), (15, 4), (18, 1)] q q_14) ∧ (-3 ≤ Int32.toInt r_13 ∧ Int32.toInt r_13 ≤ 99) from ⟨i_16, hFq_14, by omega⟩)
    · refine dOk_eq (A := Int32.toInt p1) (B := 2) rfl (by decide) (fun c_19z c_19 => ?_) (fun c_20z c_20 => ?_)
      · refine dOk_B (ok_X8_swapAt_s15 q p2 hT) (fun r_22 q_23 h_24 => ?_)
        replace h_24 : (TC q_23) ∧ (cFr [16, 17] [] q q_23) ∧ (-3 ≤ Int32.toInt r_22 ∧ Int32.toInt r_22 ≤ 7) := h_24
        obtain ⟨i_25, i_26, i_27⟩ := h_24
        have hFq_23 : cFr [16, 17, 19, 21] [(15, 3), (15, 4), (18, 1)] q q_23 := (cFr.rf (q := q)).t i_26 (by decide) (by decide)
        exact dOk_some (show (TC q_23) ∧ (cFr [16, 17, 19, 21] [(15, 3), (15, 4), (18, 1)] q q_23) ∧ (-3 ≤ Int32.toInt r_22 ∧ Int32.toInt r_22 ≤ 99) from ⟨i_25, hFq_23, by omega⟩)
      · refine dOk_eq (A := Int32.toInt p1) (B := 3) rfl (by decide) (fun c_28z c_28 => ?_) (fun c_29z c_29 => ?_)
        · refine dOk_B (ok_X8_passYear_s15_s20 q hT) (fun r_31 q_32 h_33 => ?_)
          replace h_33 : (TC q_32) ∧ (cFr [17, 19, 21] [(15, 4), (18, 1)] q q_32) ∧ (-3 ≤ Int32.toInt r_31 ∧ Int32.toInt r_31 ≤ 63) := h_33
          obtain ⟨i_34, i_35, i_36⟩ := h_33
          have hFq_32 : cFr [16, 17, 19, 21] [(15, 3), (15, 4), (18, 1)] q q_32 := (cFr.rf (q := q)).t i_35 (by decide) (by decide)
          exact dOk_some (show (TC q_32) ∧ (cFr [16, 17, 19, 21] [(15, 3), (15, 4), (18, 1)] q q_32) ∧ (-3 ≤ Int32.toInt r_31 ∧ Int32.toInt r_31 ≤ 99) from ⟨i_34, hFq_32, by omega⟩)
        · exact dOk_some (show (TC q) ∧ (cFr [16, 17, 19, 21] [(15, 3), (15, 4), (18, 1)] q q) ∧ (-3 ≤ (-3 : Int) ∧ (-3 : Int) ≤ 99) from ⟨hT, (cFr.rf (q := q)), by omega⟩)

set_option maxHeartbeats 4000000 in
set_option maxRecDepth 100000 in
theorem ok_X9_at_s0 (q : dK) (p1 : Int32) (p2 : Int32) (hT : TC q) : dOk (zX9_at_s0 q p1 p2) (fun (o : Int32 × dK) => (TC o.2) ∧ (cFr [19, 21] [(18, 1), (20, 2)] q o.2)) := by
  unfold zX9_at_s0
  refine dOk_eq (A := Int32.toInt p2) (B := 2) rfl (by decide) (fun c_1z c_1 => ?_) (fun c_2z c_2 => ?_)
  · refine dOk_B (ok_X8_isFloor_s2 q p1 hT) (fun r_4 q_5 h_6 => ?_)
    replace h_6 : (q_5 = q) ∧ ((Int32.toInt r_4 = 1 ∧ 0 ≤ Int32.toInt p1 ∧ Int32.toInt p1 < Int32.toInt (q.1 2 2)) ∨ (Int32.toInt r_4 = 0 ∧ (Int32.toInt p1 < 0 ∨ Int32.toInt (q.1 2 2) ≤ Int32.toInt p1))) := h_6
    obtain ⟨i_7, i_8⟩ := h_6
    subst q_5
    have f_9 : 0 ≤ Int32.toInt (q.1 2 2) ∧ Int32.toInt (q.1 2 2) ≤ 6 := rg_2_2 hT
    refine dOk_eq (A := Int32.toInt r_4) (B := 0) rfl (by decide) (fun c_10z c_10 => ?_) (fun c_11z c_11 => ?_)
    · unfold zX9_at_s0_41
      exact dOk_some (show (TC q) ∧ (cFr [19, 21] [(18, 1), (20, 2)] q q) from ⟨hT, (cFr.rf (q := q))⟩)
    · refine dOk_V (ok_X9_seated_s0 q hT) (fun q_13 h_14 => ?_)
      replace h_14 : (TC q_13) ∧ (cFr [21] [(20, 2)] q q_13) := h_14
      obtain ⟨i_15, i_16⟩ := h_14
      have hFq_13 : cFr [19, 21] [(18, 1), (20, 2)] q q_13 := (cFr.rf (q := q)).t i_16 (by decide) (by decide)
      refine dOk_B (ok_X1_tips_s20_s2 q_13 p1 i_15) (fun r_17 q_18 h_19 => ?_)
      replace h_19 : (TC q_18) ∧ (cFr [19, 21] [(18, 1)] q_13 q_18) ∧ ((Int32.toInt r_17 = 0 ∨ Int32.toInt r_17 = 1)) := h_19
      obtain ⟨i_20, i_21, i_22⟩ := h_19
      have hFq_18 : cFr [19, 21] [(18, 1), (20, 2)] q q_18 := hFq_13.t i_21 (by decide) (by decide)
      refine dOk_V (ok_X9_bit r_17) (fun r_23 h_24 => ?_)
      replace h_24 : ((Int32.toInt r_23 = 0 ∨ Int32.toInt r_23 = 1)) := h_24
      have i_25 := h_24
      unfold zX9_at_s0_41
      exact dOk_some (show (TC q_18) ∧ (cFr [19, 21] [(18, 1), (20, 2)] q q_18) from ⟨i_20, hFq_18⟩)
  · refine dOk_B (ok_X8_tell_s2 q p1 p2 hT) (fun r_26 q_27 h_28 => ?_)
    replace h_28 : (q_27 = q) ∧ (-1 ≤ Int32.toInt r_26 ∧ Int32.toInt r_26 ≤ 7) := h_28
    obtain ⟨i_29, i_30⟩ := h_28
    subst q_27
    exact dOk_some (show (TC q) ∧ (cFr [19, 21] [(18, 1), (20, 2)] q q) from ⟨hT, (cFr.rf (q := q))⟩)

set_option maxHeartbeats 4000000 in
set_option maxRecDepth 100000 in
theorem ok_X9_asks_s0 (q : dK) (p1 : Int32) (p2 : Int32) (hT : TC q) : dOk (zX9_asks_s0 q p1 p2) (fun (o : Int32 × dK) => (TC o.2) ∧ (cFr [19, 21] [(18, 1), (20, 2)] q o.2)) := by
  unfold zX9_asks_s0
  refine dOk_lt (A := Int32.toInt p1) (B := 1) rfl (by decide) (fun c_1 => ?_) (fun c_2 => ?_)
  · unfold zX9_asks_s0_19
    exact dOk_some (show (TC q) ∧ (cFr [19, 21] [(18, 1), (20, 2)] q q) from ⟨hT, (cFr.rf (q := q))⟩)
  · have f_3 : 0 ≤ Int32.toInt (q.1 2 2) ∧ Int32.toInt (q.1 2 2) ≤ 6 := rg_2_2 hT
    refine dOk_le (A := Int32.toInt p1) (B := Int32.toInt (q.1 2 2)) rfl rfl (fun c_4 => ?_) (fun c_5 => ?_)
    · refine dOk_eq (A := Int32.toInt p2) (B := 0) rfl (by decide) (fun c_6z c_6 => ?_) (fun c_7z c_7 => ?_)
      · refine dOk_V (ok_X9_seated_s0 q hT) (fun q_9 h_10 => ?_)
        replace h_10 : (TC q_9) ∧ (cFr [21] [(20, 2)] q q_9) := h_10
        obtain ⟨i_11, i_12⟩ := h_10
        have hFq_9 : cFr [19, 21] [(18, 1), (20, 2)] q q_9 := (cFr.rf (q := q)).t i_12 (by decide) (by decide)
        refine dOk_B (ok_X1_payOf_s20_s2 q_9 p1 i_11 (show 0 ≤ Int32.toInt p1 ∧ Int32.toInt p1 ≤ 99 by omega)) (fun r_13 q_14 h_15 => ?_)
        replace h_15 : (TC q_14) ∧ (cFr [19, 21] [(18, 1)] q_9 q_14) ∧ (0 ≤ Int32.toInt r_13 ∧ Int32.toInt r_13 ≤ 99) := h_15
        obtain ⟨i_16, i_17, i_18⟩ := h_15
        have hFq_14 : cFr [19, 21] [(18, 1), (20, 2)] q q_14 := hFq_9.t i_17 (by decide) (by decide)
        exact dOk_some (show (TC q_14) ∧ (cFr [19, 21] [(18, 1), (20, 2)] q q_14) from ⟨i_16, hFq_14⟩)
      · refine dOk_eq (A := Int32.toInt p2) (B := 1) rfl (by decide) (fun c_19z c_19 => ?_) (fun c_20z c_20 => ?_)
        · refine dOk_V (ok_X9_seated_s0 q hT) (fun q_22 h_23 => ?_)
          replace h_23 : (TC q_22) ∧ (cFr [21] [(20, 2)] q q_22) := h_23
          obtain ⟨i_24, i_25⟩ := h_23
          have hFq_22 : cFr [19, 21] [(18, 1), (20, 2)] q q_22 := (cFr.rf (q := q)).t i_25 (by decide) (by decide)
          refine dOk_B (ok_X1_bars_s20_s2 q_22 p1 i_24) (fun r_26 q_27 h_28 => ?_)
          replace h_28 : (TC q_27) ∧ (cFr [19, 21] [(18, 1)] q_22 q_27) ∧ ((Int32.toInt r_26 = 0 ∨ Int32.toInt r_26 = 1)) := h_28
          obtain ⟨i_29, i_30, i_31⟩ := h_28
          have hFq_27 : cFr [19, 21] [(18, 1), (20, 2)] q q_27 := hFq_22.t i_30 (by decide) (by decide)
          refine dOk_V (ok_X9_bit r_26) (fun r_32 h_33 => ?_)
          replace h_33 : ((Int32.toInt r_32 = 0 ∨ Int32.toInt r_32 = 1)) := h_33
          have i_34 := h_33
          unfold zX9_asks_s0_68
          exact dOk_some (show (TC q_27) ∧ (cFr [19, 21] [(18, 1), (20, 2)] q q_27) from ⟨i_29, hFq_27⟩)
        · unfold zX9_asks_s0_68
          exact dOk_some (show (TC q) ∧ (cFr [19, 21] [(18, 1), (20, 2)] q q) from ⟨hT, (cFr.rf (q := q))⟩)
    · unfold zX9_asks_s0_19
      exact dOk_some (show (TC q) ∧ (cFr [19, 21] [(18, 1), (20, 2)] q q) from ⟨hT, (cFr.rf (q := q))⟩)

set_option maxHeartbeats 4000000 in
set_option maxRecDepth 100000 in
theorem ok_X9_move_s0 (q : dK) (p1 : Int32) (p2 : Int32) (hT : TC q) : dOk (zX9_move_s0 q p1 p2) (fun (o : Int32 × dK) => (TC o.2) ∧ (cFr [3, 4, 12, 19, 21, 48] [(0, 18), (2, 3), (2, 4), (10, 2), (18, 1), (20, 2)] q o.2)) := by
  unfold zX9_move_s0
  refine dOk_B (ok_X8_pack_s2 q hT) (fun r_1 q_2 h_3 => ?_)
  replace h_3 : (q_2 = q) ∧ (0 ≤ Int64.toInt r_1) := h_3
  obtain ⟨i_4, i_5⟩ := h_3
  subst q_2
  refine dOk_V (ok_X9_seated_s0 q hT) (fun q_6 h_7 => ?_)
  replace h_7 : (TC q_6) ∧ (cFr [21] [(20, 2)] q q_6) := h_7
  obtain ⟨i_8, i_9⟩ := h_7
  have hFq_6 : cFr [3, 4, 12, 19, 21, 48] [(0, 18), (2, 3), (2, 4), (10, 2), (18, 1), (20, 2)] q q_6 := (cFr.rf (q := q)).t i_9 (by decide) (by decide)
  refine dOk_B (ok_X8_act_s2_s20 q_6 p1 p2 i_8) (fun r_10 q_11 h_12 => ?_)
  replace h_12 : (TC q_11) ∧ (cFr [3, 4, 19, 21] [(2, 3), (2, 4), (18, 1)] q_6 q_11) ∧ (-3 ≤ Int32.toInt r_10 ∧ Int32.toInt r_10 ≤ 99) := h_12
  obtain ⟨i_13, i_14, i_15⟩ := h_12
  have hFq_11 : cFr [3, 4, 12, 19, 21, 48] [(0, 18), (2, 3), (2, 4), (10, 2), (18, 1), (20, 2)] q q_11 := hFq_6.t i_14 (by decide) (by decide)
  refine dOk_le (A := 0) (B := Int32.toInt r_10) (by decide) rfl (fun c_16 => ?_) (fun c_17 => ?_)
  · refine dOk_V (ok_X0_keep_s10 q_11 p1 (r_1) i_13 (show 0 ≤ Int64.toInt (r_1) by omega)) (fun q_18 h_19 => ?_)
    replace h_19 : (TC q_18) ∧ (cFr [12] [(10, 2)] q_11 q_18) := h_19
    obtain ⟨i_20, i_21⟩ := h_19
    have hFq_18 : cFr [3, 4, 12, 19, 21, 48] [(0, 18), (2, 3), (2, 4), (10, 2), (18, 1), (20, 2)] q q_18 := hFq_11.t i_21 (by decide) (by decide)
    refine dOk_B (ok_X9_accept_s0 q_18 r_10 i_20) (fun r_22 q_23 h_24 => ?_)
    replace h_24 : (TC q_23) ∧ (cFr [] [(0, 18)] q_18 q_23) ∧ (Int32.toInt r_22 = Int32.toInt r_10) := h_24
    obtain ⟨i_25, i_26, i_27⟩ := h_24
    have hFq_23 : cFr [3, 4, 12, 19, 21, 48] [(0, 18), (2, 3), (2, 4), (10, 2), (18, 1), (20, 2)] q q_23 := hFq_18.t i_26 (by decide) (by decide)
    exact dOk_some (show (TC q_23) ∧ (cFr [3, 4, 12, 19, 21, 48] [(0, 18), (2, 3), (2, 4), (10, 2), (18, 1), (20, 2)] q q_23) from ⟨i_25, hFq_23⟩)
  · refine dOk_B (ok_X9_refuse_s0 q_11 r_10 i_13) (fun r_28 q_29 h_30 => ?_)
    replace h_30 : (TC q_29) ∧ (cFr [48] [(0, 18)] q_11 q_29) ∧ (Int32.toInt r_28 = Int32.toInt r_10) := h_30
    obtain ⟨i_31, i_32, i_33⟩ := h_30
    have hFq_29 : cFr [3, 4, 12, 19, 21, 48] [(0, 18), (2, 3), (2, 4), (10, 2), (18, 1), (20, 2)] q q_29 := hFq_11.t i_32 (by decide) (by decide)
    exact dOk_some (show (TC q_29) ∧ (cFr [3, 4, 12, 19, 21, 48] [(0, 18), (2, 3), (2, 4), (10, 2), (18, 1), (20, 2)] q q_29) from ⟨i_31, hFq_29⟩)

set_option maxHeartbeats 4000000 in
set_option maxRecDepth 100000 in
theorem ok_X9_turn_s0 (q : dK) (p1 : Int32) (hT : TC q) : dOk (zX9_turn_s0 q p1) (fun (o : Int32 × dK) => (TC o.2) ∧ (cFr [3, 4, 12, 19, 21, 48] [(0, 18), (2, 3), (2, 4), (10, 2), (18, 1), (20, 2)] q o.2)) := by
  unfold zX9_turn_s0
  refine dOk_B (ok_X9_move_s0 q 0 p1 hT) (fun r_1 q_2 h_3 => ?_)
  replace h_3 : (TC q_2) ∧ (cFr [3, 4, 12, 19, 21, 48] [(0, 18), (2, 3), (2, 4), (10, 2), (18, 1), (20, 2)] q q_2) := h_3
  obtain ⟨i_4, i_5⟩ := h_3
  have hFq_2 : cFr [3, 4, 12, 19, 21, 48] [(0, 18), (2, 3), (2, 4), (10, 2), (18, 1), (20, 2)] q q_2 := (cFr.rf (q := q)).t i_5 (by decide) (by decide)
  exact dOk_some (show (TC q_2) ∧ (cFr [3, 4, 12, 19, 21, 48] [(0, 18), (2, 3), (2, 4), (10, 2), (18, 1), (20, 2)] q q_2) from ⟨i_4, hFq_2⟩)

set_option maxHeartbeats 4000000 in
set_option maxRecDepth 100000 in
theorem ok_X9_right_s0 (q : dK) (p1 : Int32) (hT : TC q) : dOk (zX9_right_s0 q p1) (fun (o : Int32 × dK) => (TC o.2) ∧ (cFr [3, 4, 12, 19, 21, 48] [(0, 18), (2, 3), (2, 4), (10, 2), (18, 1), (20, 2)] q o.2)) := by
  unfold zX9_right_s0
  refine dOk_B (ok_X9_move_s0 q 1 p1 hT) (fun r_1 q_2 h_3 => ?_)
  replace h_3 : (TC q_2) ∧ (cFr [3, 4, 12, 19, 21, 48] [(0, 18), (2, 3), (2, 4), (10, 2), (18, 1), (20, 2)] q q_2) := h_3
  obtain ⟨i_4, i_5⟩ := h_3
  have hFq_2 : cFr [3, 4, 12, 19, 21, 48] [(0, 18), (2, 3), (2, 4), (10, 2), (18, 1), (20, 2)] q q_2 := (cFr.rf (q := q)).t i_5 (by decide) (by decide)
  exact dOk_some (show (TC q_2) ∧ (cFr [3, 4, 12, 19, 21, 48] [(0, 18), (2, 3), (2, 4), (10, 2), (18, 1), (20, 2)] q q_2) from ⟨i_4, hFq_2⟩)

set_option maxHeartbeats 4000000 in
set_option maxRecDepth 100000 in
theorem ok_X9_swap_s0 (q : dK) (p1 : Int32) (hT : TC q) : dOk (zX9_swap_s0 q p1) (fun (o : Int32 × dK) => (TC o.2) ∧ (cFr [3, 4, 12, 19, 21, 48] [(0, 18), (2, 3), (2, 4), (10, 2), (18, 1), (20, 2)] q o.2)) := by
  unfold zX9_swap_s0
  refine dOk_B (ok_X9_move_s0 q 2 p1 hT) (fun r_1 q_2 h_3 => ?_)
  replace h_3 : (TC q_2) ∧ (cFr [3, 4, 12, 19, 21, 48] [(0, 18), (2, 3), (2, 4), (10, 2), (18, 1), (20, 2)] q q_2) := h_3
  obtain ⟨i_4, i_5⟩ := h_3
  have hFq_2 : cFr [3, 4, 12, 19, 21, 48] [(0, 18), (2, 3), (2, 4), (10, 2), (18, 1), (20, 2)] q q_2 := (cFr.rf (q := q)).t i_5 (by decide) (by decide)
  exact dOk_some (show (TC q_2) ∧ (cFr [3, 4, 12, 19, 21, 48] [(0, 18), (2, 3), (2, 4), (10, 2), (18, 1), (20, 2)] q q_2) from ⟨i_4, hFq_2⟩)

set_option maxHeartbeats 4000000 in
set_option maxRecDepth 100000 in
theorem ok_X9_pass_s0 (q : dK) (hT : TC q) : dOk (zX9_pass_s0 q) (fun (o : Int32 × dK) => (TC o.2) ∧ (cFr [3, 4, 12, 19, 21, 48] [(0, 18), (2, 3), (2, 4), (10, 2), (18, 1), (20, 2)] q o.2)) := by
  unfold zX9_pass_s0
  refine dOk_B (ok_X9_move_s0 q 3 0 hT) (fun r_1 q_2 h_3 => ?_)
  replace h_3 : (TC q_2) ∧ (cFr [3, 4, 12, 19, 21, 48] [(0, 18), (2, 3), (2, 4), (10, 2), (18, 1), (20, 2)] q q_2) := h_3
  obtain ⟨i_4, i_5⟩ := h_3
  have hFq_2 : cFr [3, 4, 12, 19, 21, 48] [(0, 18), (2, 3), (2, 4), (10, 2), (18, 1), (20, 2)] q q_2 := (cFr.rf (q := q)).t i_5 (by decide) (by decide)
  exact dOk_some (show (TC q_2) ∧ (cFr [3, 4, 12, 19, 21, 48] [(0, 18), (2, 3), (2, 4), (10, 2), (18, 1), (20, 2)] q q_2) from ⟨i_4, hFq_2⟩)

set_option maxHeartbeats 4000000 in
set_option maxRecDepth 100000 in
theorem ok_X9_was_s0 (q : dK) (hT : TC q) : dOk (zX9_was_s0 q) (fun (o : Int32 × dK) => (TC o.2) ∧ (cFr [19, 21] [(18, 1), (20, 2)] q o.2)) := by
  unfold zX9_was_s0
  refine dOk_V (ok_X9_seated_s0 q hT) (fun q_1 h_2 => ?_)
  replace h_2 : (TC q_1) ∧ (cFr [21] [(20, 2)] q q_1) := h_2
  obtain ⟨i_3, i_4⟩ := h_2
  have hFq_1 : cFr [19, 21] [(18, 1), (20, 2)] q q_1 := (cFr.rf (q := q)).t i_4 (by decide) (by decide)
  unfold zX9_was_s0_9
  refine dFix_ok (fun (a : dK × Int32 × Int32) => (TC a.1) ∧ (cFr [19, 21] [(18, 1)] q_1 a.1) ∧ (1 ≤ Int32.toInt a.2.2) ∧ (Int32.toInt a.2.2 ≤ 7)) (fun (a : dK × Int32 × Int32) => (7 - Int32.toInt a.2.2).toNat) ?_ _ ?_ _ (dF_gt ?_)
  · intro a ha k_6 hk_5
    obtain ⟨q_7, x2_8, x3_9⟩ := a
    replace ha : (TC q_7) ∧ (cFr [19, 21] [(18, 1)] q_1 q_7) ∧ (1 ≤ Int32.toInt x3_9) ∧ (Int32.toInt x3_9 ≤ 7) := ha
    obtain ⟨a_10, a_11, a_12, a_13⟩ := ha
    show dOk (zX9_was_s0_9b  (fun q x2 x3 => k_6 (q, x2, x3)) q_7 x2_8 x3_9) _
    unfold zX9_was_s0_9b
    have hFq_7 : cFr [19, 21] [(18, 1), (20, 2)] q q_7 := hFq_1.t a_11 (by decide) (by decide)
    have f_14 : 0 ≤ Int32.toInt (q_7.1 2 2) ∧ Int32.toInt (q_7.1 2 2) ≤ 6 := rg_2_2 a_10
    have f_15 : 0 ≤ Int32.toInt (q_1.1 2 2) ∧ Int32.toInt (q_1.1 2 2) ≤ 6 := rg_2_2 i_3
    have f_16 : 0 ≤ Int32.toInt (q.1 2 2) ∧ Int32.toInt (q.1 2 2) ≤ 6 := rg_2_2 hT
    have w_17 : Int32.toInt (q_1.1 2 2) = Int32.toInt (q.1 2 2) := by rw [i_4.1 2 2 (by decide) (by decide)]
    have w_18 : Int32.toInt (q_7.1 2 2) = Int32.toInt (q_1.1 2 2) := by rw [a_11.1 2 2 (by decide) (by decide)]
    refine dOk_lt (A := Int32.toInt (q_7.1 2 2)) (B := Int32.toInt x3_9) rfl rfl (fun c_19 => ?_) (fun c_20 => ?_)
    · exact dOk_some (show (TC q_7) ∧ (cFr [19, 21] [(18, 1), (20, 2)] q q_7) from ⟨a_10, hFq_7⟩)
    · refine dOk_B (ok_X1_bars_s20_s2 q_7 x3_9 a_10) (fun r_21 q_22 h_23 => ?_)
      replace h_23 : (TC q_22) ∧ (cFr [19, 21] [(18, 1)] q_7 q_22) ∧ ((Int32.toInt r_21 = 0 ∨ Int32.toInt r_21 = 1)) := h_23
      obtain ⟨i_24, i_25, i_26⟩ := h_23
      have hFq_22 : cFr [19, 21] [(18, 1), (20, 2)] q q_22 := hFq_7.t i_25 (by decide) (by decide)
      refine dOk_eq (A := Int32.toInt r_21) (B := 0) rfl (by decide) (fun c_27z c_27 => ?_) (fun c_28z c_28 => ?_)
      · refine dOk_B (ok_X6_agrees_s1 q_22 x3_9 i_24) (fun r_30 q_31 h_32 => ?_)
        replace h_32 : (q_31 = q_22) ∧ ((Int32.toInt r_30 = 0 ∨ Int32.toInt r_30 = 1)) := h_32
        obtain ⟨i_33, i_34⟩ := h_32
        subst q_31
        refine dOk_eq (A := Int32.toInt r_30) (B := 0) rfl (by decide) (fun c_35z c_35 => ?_) (fun c_36z c_36 => ?_)
        · unfold zX9_was_s0_55
          try have t_38 : Int32.toInt (x3_9 + 1) = Int32.toInt x3_9 + 1 := ti_add rfl (by decide) (by omega) (by omega)
          exact hk_5 (q_22, x2_8, (x3_9 + 1)) (show (TC q_22) ∧ (cFr [19, 21] [(18, 1)] q_1 q_22) ∧ (1 ≤ Int32.toInt (x3_9 + 1)) ∧ (Int32.toInt (x3_9 + 1) ≤ 7) from ⟨i_24, ((((cFr.rf : cFr [19, 21] [(18, 1)] q_1 q_1).t a_11 (by decide) (by decide)) : cFr [19, 21] [(18, 1)] q_1 q_7).t i_25 (by decide) (by decide)), by omega, by omega⟩) (show (7 - Int32.toInt (x3_9 + 1)).toNat < (7 - Int32.toInt x3_9).toNat by omega)
        · unfold zX9_was_s0_55
          try have t_39 := ti_shlP (s := x3_9) (by omega) (by omega)
          try have t_40 := ti_shl5 (x := 1) (s := x3_9) (by decide) (by decide) (by omega) (by omega)
          try have t_41 := ti_shl6 (x := 1) (s := x3_9) (by decide) (by decide) (by omega) (by omega)
          try have t_42 := ti_or (x := x2_8) (y := 1 <<< ((x3_9 : Int32) &&& 31)) 6 (by decide) (by omega) (by omega) (by omega) (by omega)
          try have t_43 : Int32.toInt (x3_9 + 1) = Int32.toInt x3_9 + 1 := ti_add rfl (by decide) (by omega) (by omega)
          exact hk_5 (q_22, (x2_8 ||| 1 <<< ((x3_9 : Int32) &&& 31)), (x3_9 + 1)) (show (TC q_22) ∧ (cFr [19, 21] [(18, 1)] q_1 q_22) ∧ (1 ≤ Int32.toInt (x3_9 + 1)) ∧ (Int32.toInt (x3_9 + 1) ≤ 7) from ⟨i_24, ((((cFr.rf : cFr [19, 21] [(18, 1)] q_1 q_1).t a_11 (by decide) (by decide)) : cFr [19, 21] [(18, 1)] q_1 q_7).t i_25 (by decide) (by decide)), by omega, by omega⟩) (show (7 - Int32.toInt (x3_9 + 1)).toNat < (7 - Int32.toInt x3_9).toNat by omega)
      · unfold zX9_was_s0_55
        try have t_44 : Int32.toInt (x3_9 + 1) = Int32.toInt x3_9 + 1 := ti_add rfl (by decide) (by omega) (by omega)
        exact hk_5 (q_22, x2_8, (x3_9 + 1)) (show (TC q_22) ∧ (cFr [19, 21] [(18, 1)] q_1 q_22) ∧ (1 ≤ Int32.toInt (x3_9 + 1)) ∧ (Int32.toInt (x3_9 + 1) ≤ 7) from ⟨i_24, ((((cFr.rf : cFr [19, 21] [(18, 1)] q_1 q_1).t a_11 (by decide) (by decide)) : cFr [19, 21] [(18, 1)] q_1 q_7).t i_25 (by decide) (by decide)), by omega, by omega⟩) (show (7 - Int32.toInt (x3_9 + 1)).toNat < (7 - Int32.toInt x3_9).toNat by omega)
  · exact (show (TC q_1) ∧ (cFr [19, 21] [(18, 1)] q_1 q_1) ∧ (1 ≤ (1 : Int)) ∧ ((1 : Int) ≤ 7) from ⟨i_3, cFr.rf, by omega, by omega⟩)
  · show (7 - (1 : Int)).toNat < 1000000000000
    omega

set_option maxHeartbeats 4000000 in
set_option maxRecDepth 100000 in
theorem ok_X9_look_s0 (q : dK) (p1 : Int32) (hT : TC q) : dOk (zX9_look_s0 q p1) (fun (o : Int32 × dK) => (TC o.2) ∧ (cFr [19, 21] [(18, 1), (20, 2)] q o.2)) := by
  unfold zX9_look_s0
  refine dOk_B (ok_X9_was_s0 q hT) (fun r_1 q_2 h_3 => ?_)
  replace h_3 : (TC q_2) ∧ (cFr [19, 21] [(18, 1), (20, 2)] q q_2) := h_3
  obtain ⟨i_4, i_5⟩ := h_3
  have hFq_2 : cFr [19, 21] [(18, 1), (20, 2)] q q_2 := (cFr.rf (q := q)).t i_5 (by decide) (by decide)
  refine dOk_eq (A := Int32.toInt r_1) (B := 0) rfl (by decide) (fun c_6z c_6 => ?_) (fun c_7z c_7 => ?_)
  · unfold zX9_look_s0_16
    exact dOk_some (show (TC q_2) ∧ (cFr [19, 21] [(18, 1), (20, 2)] q q_2) from ⟨i_4, hFq_2⟩)
  · refine dOk_V (ok_X9_isBit p1) (fun r_9 h_10 => ?_)
    replace h_10 : ((Int32.toInt r_9 = 1 ∧ 0 ≤ Int32.toInt p1 ∧ Int32.toInt p1 ≤ 1) ∨ (Int32.toInt r_9 = 0 ∧ (Int32.toInt p1 < 0 ∨ 1 < Int32.toInt p1))) := h_10
    have i_11 := h_10
    refine dOk_eq (A := Int32.toInt r_9) (B := 0) rfl (by decide) (fun c_12z c_12 => ?_) (fun c_13z c_13 => ?_)
    · unfold zX9_look_s0_16
      exact dOk_some (show (TC q_2) ∧ (cFr [19, 21] [(18, 1), (20, 2)] q q_2) from ⟨i_4, hFq_2⟩)
    · refine dOk_B (ok_X8_mostAlike_s2 q_2 r_1 0 i_4) (fun r_15 q_16 h_17 => ?_)
      replace h_17 : (q_16 = q_2) := h_17
      have i_18 := h_17
      subst q_16
      unfold zX9_look_s0_37
      refine dFix_ok (fun (a : dK × Int32 × Int32 × Int32 × Int32 × Int32) => (a.1 = q_2) ∧ (a.2.1 = p1) ∧ (a.2.2.1 = r_1) ∧ (1 ≤ Int32.toInt a.2.2.2.2.2) ∧ (Int32.toInt a.2.2.2.2.2 ≤ 7)) (fun (a : dK × Int32 × Int32 × Int32 × Int32 × Int32) => (7 - Int32.toInt a.2.2.2.2.2).toNat) ?_ _ ?_ _ (dF_gt ?_)
      · intro a ha k_20 hk_19
        obtain ⟨q_21, x1_22, x2_23, x3_24, x4_25, x5_26⟩ := a
        replace ha : (q_21 = q_2) ∧ (x1_22 = p1) ∧ (x2_23 = r_1) ∧ (1 ≤ Int32.toInt x5_26) ∧ (Int32.toInt x5_26 ≤ 7) := ha
        obtain ⟨a_27, a_28, a_29, a_30, a_31⟩ := ha
        show dOk (zX9_look_s0_37b  (fun q x1 x2 x3 x4 x5 => k_20 (q, x1, x2, x3, x4, x5)) q_21 x1_22 x2_23 x3_24 x4_25 x5_26) _
        unfold zX9_look_s0_37b
        subst q_21
        subst x1_22
        subst x2_23
        have f_32 : 0 ≤ Int32.toInt (q_2.1 2 2) ∧ Int32.toInt (q_2.1 2 2) ≤ 6 := rg_2_2 i_4
        have f_33 : 0 ≤ Int32.toInt (q.1 2 2) ∧ Int32.toInt (q.1 2 2) ≤ 6 := rg_2_2 hT
        have w_34 : Int32.toInt (q_2.1 2 2) = Int32.toInt (q.1 2 2) := by rw [i_5.1 2 2 (by decide) (by decide)]
        refine dOk_le (A := Int32.toInt (q_2.1 2 2)) (B := Int32.toInt x5_26) rfl rfl (fun c_35 => ?_) (fun c_36 => ?_)
        · refine dOk_eq (A := Int32.toInt p1) (B := 0) rfl (by decide) (fun c_37z c_37 => ?_) (fun c_38z c_38 => ?_)
          · unfold zX9_look_s0_97
            exact dOk_some (show (TC q_2) ∧ (cFr [19, 21] [(18, 1), (20, 2)] q q_2) from ⟨i_4, hFq_2⟩)
          · unfold zX9_look_s0_97
            exact dOk_some (show (TC q_2) ∧ (cFr [19, 21] [(18, 1), (20, 2)] q q_2) from ⟨i_4, hFq_2⟩)
        · refine dOk_B (ok_X8_mostAlike_s2 q_2 r_1 x5_26 i_4) (fun r_40 q_41 h_42 => ?_)
          replace h_42 : (q_41 = q_2) := h_42
          have i_43 := h_42
          subst q_41
          refine dOk_le (A := Int32.toInt x4_25) (B := Int32.toInt r_40) rfl rfl (fun c_44 => ?_) (fun c_45 => ?_)
          · unfold zX9_look_s0_81
            try have t_46 : Int32.toInt (x5_26 + 1) = Int32.toInt x5_26 + 1 := ti_add rfl (by decide) (by omega) (by omega)
            exact hk_19 (q_2, p1, r_1, x3_24, x4_25, (x5_26 + 1)) (show (q_2 = q_2) ∧ (p1 = p1) ∧ (r_1 = r_1) ∧ (1 ≤ Int32.toInt (x5_26 + 1)) ∧ (Int32.toInt (x5_26 + 1) ≤ 7) from ⟨rfl, rfl, rfl, by omega, by omega⟩) (show (7 - Int32.toInt (x5_26 + 1)).toNat < (7 - Int32.toInt x5_26).toNat by omega)
          · unfold zX9_look_s0_81
            try have t_47 : Int32.toInt (x5_26 + 1) = Int32.toInt x5_26 + 1 := ti_add rfl (by decide) (by omega) (by omega)
            exact hk_19 (q_2, p1, r_1, x5_26, r_40, (x5_26 + 1)) (show (q_2 = q_2) ∧ (p1 = p1) ∧ (r_1 = r_1) ∧ (1 ≤ Int32.toInt (x5_26 + 1)) ∧ (Int32.toInt (x5_26 + 1) ≤ 7) from ⟨rfl, rfl, rfl, by omega, by omega⟩) (show (7 - Int32.toInt (x5_26 + 1)).toNat < (7 - Int32.toInt x5_26).toNat by omega)
      · exact (show (q_2 = q_2) ∧ (p1 = p1) ∧ (r_1 = r_1) ∧ (1 ≤ (1 : Int)) ∧ ((1 : Int) ≤ 7) from ⟨rfl, rfl, rfl, by omega, by omega⟩)
      · show (7 - (1 : Int)).toNat < 1000000000000
        omega

set_option maxHeartbeats 4000000 in
set_option maxRecDepth 100000 in
theorem ok_X9_stays_s0 (q : dK) (p1 : Int32) (hT : TC q) : dOk (zX9_stays_s0 q p1) (fun (o : Int32 × dK) => (o.2 = q)) := by
  unfold zX9_stays_s0
  refine dOk_V (ok_X9_isBit p1) (fun r_1 h_2 => ?_)
  replace h_2 : ((Int32.toInt r_1 = 1 ∧ 0 ≤ Int32.toInt p1 ∧ Int32.toInt p1 ≤ 1) ∨ (Int32.toInt r_1 = 0 ∧ (Int32.toInt p1 < 0 ∨ 1 < Int32.toInt p1))) := h_2
  have i_3 := h_2
  refine dOk_eq (A := Int32.toInt r_1) (B := 0) rfl (by decide) (fun c_4z c_4 => ?_) (fun c_5z c_5 => ?_)
  · exact dOk_some (show (q = q) from rfl)
  · unfold zX9_stays_s0_13
    refine dFix_ok (fun (a : dK × Int32 × Int32 × Int32) => (a.1 = q) ∧ (a.2.1 = p1) ∧ (0 ≤ Int32.toInt a.2.2.2) ∧ (Int32.toInt a.2.2.2 ≤ 64)) (fun (a : dK × Int32 × Int32 × Int32) => (64 - Int32.toInt a.2.2.2).toNat) ?_ _ ?_ _ (dF_gt ?_)
    · intro a ha k_8 hk_7
      obtain ⟨q_9, x1_10, x2_11, x3_12⟩ := a
      replace ha : (q_9 = q) ∧ (x1_10 = p1) ∧ (0 ≤ Int32.toInt x3_12) ∧ (Int32.toInt x3_12 ≤ 64) := ha
      obtain ⟨a_13, a_14, a_15, a_16⟩ := ha
      show dOk (zX9_stays_s0_13b  (fun q x1 x2 x3 => k_8 (q, x1, x2, x3)) q_9 x1_10 x2_11 x3_12) _
      unfold zX9_stays_s0_13b
      subst q_9
      subst x1_10
      have f_17 : 0 ≤ Int32.toInt (q.1 2 2) ∧ Int32.toInt (q.1 2 2) ≤ 6 := rg_2_2 hT
      try have t_18 := ti_shlP (s := q.1 2 2) (by omega) (by omega)
      try have t_19 := ti_shl5 (x := 1) (s := q.1 2 2) (by decide) (by decide) (by omega) (by omega)
      try have t_20 := ti_shl6 (x := 1) (s := q.1 2 2) (by decide) (by decide) (by omega) (by omega)
      refine dOk_le (A := Int32.toInt (1 <<< ((q.1 2 2 : Int32) &&& 31))) (B := Int32.toInt x3_12) rfl rfl (fun c_21 => ?_) (fun c_22 => ?_)
      · refine dOk_eq (A := Int32.toInt p1) (B := 0) rfl (by decide) (fun c_23z c_23 => ?_) (fun c_24z c_24 => ?_)
        · refine dOk_V (ok_J6_bitCount_0f7a4 x2_11) (fun r_26 h_27 => ?_)
          replace h_27 : (0 ≤ Int32.toInt r_26 ∧ Int32.toInt r_26 ≤ 63) := h_27
          have i_28 := h_27
          unfold zX9_stays_s0_81
          exact dOk_some (show (q = q) from rfl)
        · unfold zX9_stays_s0_81
          exact dOk_some (show (q = q) from rfl)
      · refine dOk_V (ok_J6_bitCount_0f7a4 x3_12) (fun r_29 h_30 => ?_)
        replace h_30 : (0 ≤ Int32.toInt r_29 ∧ Int32.toInt r_29 ≤ 63) := h_30
        have i_31 := h_30
        refine dOk_V (ok_J6_bitCount_0f7a4 x2_11) (fun r_32 h_33 => ?_)
        replace h_33 : (0 ≤ Int32.toInt r_32 ∧ Int32.toInt r_32 ≤ 63) := h_33
        have i_34 := h_33
        refine dOk_le (A := Int32.toInt r_29) (B := Int32.toInt r_32) rfl rfl (fun c_35 => ?_) (fun c_36 => ?_)
        · unfold zX9_stays_s0_63
          try have t_37 : Int32.toInt (x3_12 + 1) = Int32.toInt x3_12 + 1 := ti_add rfl (by decide) (by omega) (by omega)
          exact hk_7 (q, p1, x2_11, (x3_12 + 1)) (show (q = q) ∧ (p1 = p1) ∧ (0 ≤ Int32.toInt (x3_12 + 1)) ∧ (Int32.toInt (x3_12 + 1) ≤ 64) from ⟨rfl, rfl, by omega, by omega⟩) (show (64 - Int32.toInt (x3_12 + 1)).toNat < (64 - Int32.toInt x3_12).toNat by omega)
        · refine dOk_B (ok_X8_rises_s2 q x3_12 (q.1 1 3) hT) (fun r_38 q_39 h_40 => ?_)
          replace h_40 : (q_39 = q) ∧ ((Int32.toInt r_38 = 0 ∨ Int32.toInt r_38 = 1)) := h_40
          obtain ⟨i_41, i_42⟩ := h_40
          subst q_39
          refine dOk_eq (A := Int32.toInt r_38) (B := 0) rfl (by decide) (fun c_43z c_43 => ?_) (fun c_44z c_44 => ?_)
          · unfold zX9_stays_s0_63
            try have t_46 : Int32.toInt (x3_12 + 1) = Int32.toInt x3_12 + 1 := ti_add rfl (by decide) (by omega) (by omega)
            exact hk_7 (q, p1, x2_11, (x3_12 + 1)) (show (q = q) ∧ (p1 = p1) ∧ (0 ≤ Int32.toInt (x3_12 + 1)) ∧ (Int32.toInt (x3_12 + 1) ≤ 64) from ⟨rfl, rfl, by omega, by omega⟩) (show (64 - Int32.toInt (x3_12 + 1)).toNat < (64 - Int32.toInt x3_12).toNat by omega)
          · unfold zX9_stays_s0_63
            try have t_47 : Int32.toInt (x3_12 + 1) = Int32.toInt x3_12 + 1 := ti_add rfl (by decide) (by omega) (by omega)
            exact hk_7 (q, p1, x3_12, (x3_12 + 1)) (show (q = q) ∧ (p1 = p1) ∧ (0 ≤ Int32.toInt (x3_12 + 1)) ∧ (Int32.toInt (x3_12 + 1) ≤ 64) from ⟨rfl, rfl, by omega, by omega⟩) (show (64 - Int32.toInt (x3_12 + 1)).toNat < (64 - Int32.toInt x3_12).toNat by omega)
    · exact (show (q = q) ∧ (p1 = p1) ∧ (0 ≤ (1 : Int)) ∧ ((1 : Int) ≤ 64) from ⟨rfl, rfl, by omega, by omega⟩)
    · show (64 - (1 : Int)).toNat < 1000000000000
      omega

set_option maxHeartbeats 4000000 in
set_option maxRecDepth 100000 in
theorem ok_X9_few_s0 (q : dK) (p1 : Int32) (p2 : Int32) (hT : TC q) : dOk (zX9_few_s0 q p1 p2) (fun (o : Int64 × dK) => (TC o.2) ∧ (cFr [] [] q o.2)) := by
  unfold zX9_few_s0
  refine dOk_lt (A := Int32.toInt p1) (B := 1) rfl (by decide) (fun c_1 => ?_) (fun c_2 => ?_)
  · unfold zX9_few_s0_21
    exact dOk_some (show (TC q) ∧ (cFr [] [] q q) from ⟨hT, (cFr.rf (q := q))⟩)
  · refine dOk_lt (A := 20) (B := Int32.toInt p1) (by decide) rfl (fun c_3 => ?_) (fun c_4 => ?_)
    · unfold zX9_few_s0_21
      exact dOk_some (show (TC q) ∧ (cFr [] [] q q) from ⟨hT, (cFr.rf (q := q))⟩)
    · refine dOk_lt (A := Int32.toInt p2) (B := 0) rfl (by decide) (fun c_5 => ?_) (fun c_6 => ?_)
      · unfold zX9_few_s0_21
        exact dOk_some (show (TC q) ∧ (cFr [] [] q q) from ⟨hT, (cFr.rf (q := q))⟩)
      · refine dOk_le (A := Int32.toInt p2) (B := 99) rfl (by decide) (fun c_7 => ?_) (fun c_8 => ?_)
        · refine dOk_L (fun q_9 eq_9 => ?_)
          have hTq_9 : TC q_9 := by rw [eq_9]; exact tc_cfl hT (by decide)
          have hFq_9 : cFr [] [] q q_9 := by rw [eq_9]; exact (cFr.rf (q := q)).fl
          refine dOk_L (fun q_10 eq_10 => ?_)
          have hTq_10 : TC q_10 := by rw [eq_10]; exact tc_l hTq_9 (fun _ => by omega)
          have hFq_10 : cFr [] [] q q_10 := by rw [eq_10]; exact hFq_9.l
          unfold zX9_few_s0_44
          refine dFix_ok (fun (a : dK × Int32 × Int32 × Int32) => (TC a.1) ∧ (cFr [] [] q_10 a.1) ∧ (a.2.1 = p1) ∧ (a.2.2.1 = p2) ∧ (0 ≤ Int32.toInt a.2.2.2) ∧ (Int32.toInt a.2.2.2 ≤ 99)) (fun (a : dK × Int32 × Int32 × Int32) => (99 - Int32.toInt a.2.2.2).toNat) ?_ _ ?_ _ (dF_gt ?_)
          · intro a ha k_12 hk_11
            obtain ⟨q_13, x1_14, x2_15, x3_16⟩ := a
            replace ha : (TC q_13) ∧ (cFr [] [] q_10 q_13) ∧ (x1_14 = p1) ∧ (x2_15 = p2) ∧ (0 ≤ Int32.toInt x3_16) ∧ (Int32.toInt x3_16 ≤ 99) := ha
            obtain ⟨a_17, a_18, a_19, a_20, a_21, a_22⟩ := ha
            show dOk (zX9_few_s0_44b  (fun q x1 x2 x3 => k_12 (q, x1, x2, x3)) q_13 x1_14 x2_15 x3_16) _
            unfold zX9_few_s0_44b
            have hFq_13 : cFr [] [] q q_13 := hFq_10.t a_18 (by decide) (by decide)
            subst x1_14
            subst x2_15
            refine dOk_le (A := Int32.toInt p2) (B := Int32.toInt x3_16) rfl rfl (fun c_23 => ?_) (fun c_24 => ?_)
            · unfold zX9_few_s0_146
              refine dFix_ok (fun (a : dK × Int32 × Int64 × Int32) => (a.1 = q_13) ∧ (a.2.1 = p1) ∧ (0 ≤ Int32.toInt a.2.2.2) ∧ (Int32.toInt a.2.2.2 ≤ 20)) (fun (a : dK × Int32 × Int64 × Int32) => (20 - Int32.toInt a.2.2.2).toNat) ?_ _ ?_ _ (dF_gt ?_)
              · intro a ha k_26 hk_25
                obtain ⟨q_27, x1_28, x3_29, x5_30⟩ := a
                replace ha : (q_27 = q_13) ∧ (x1_28 = p1) ∧ (0 ≤ Int32.toInt x5_30) ∧ (Int32.toInt x5_30 ≤ 20) := ha
                obtain ⟨a_31, a_32, a_33, a_34⟩ := ha
                show dOk (zX9_few_s0_146b  (fun q x1 x3 x5 => k_26 (q, x1, x3, x5)) q_27 x1_28 x3_29 x5_30) _
                unfold zX9_few_s0_146b
                subst q_27
                subst x1_28
                refine dOk_le (A := Int32.toInt p1) (B := Int32.toInt x5_30) rfl rfl (fun c_35 => ?_) (fun c_36 => ?_)
                · exact dOk_some (show (TC q_13) ∧ (cFr [] [] q q_13) from ⟨a_17, hFq_13⟩)
                · refine dOk_G (dg_ok (show 0 ≤ Int32.toInt x5_30 by omega) (show Int32.toInt x5_30 < ((20 : Nat) : Int) by omega)) ?_
                  have n_37 : ((Int32.toNatClampNeg x5_30 : Nat) : Int) = Int32.toInt x5_30 := cl_eq (by omega)
                  refine dOk_L (fun v_38 ev_38 => ?_)
                  try have t_39 : Int32.toInt (x5_30 + 1) = Int32.toInt x5_30 + 1 := ti_add rfl (by decide) (by omega) (by omega)
                  exact hk_25 (q_13, p1, (x3_29 + v_38 : Int64), (x5_30 + 1)) (show (q_13 = q_13) ∧ (p1 = p1) ∧ (0 ≤ Int32.toInt (x5_30 + 1)) ∧ (Int32.toInt (x5_30 + 1) ≤ 20) from ⟨rfl, rfl, by omega, by omega⟩) (show (20 - Int32.toInt (x5_30 + 1)).toNat < (20 - Int32.toInt x5_30).toNat by omega)
              · exact (show (q_13 = q_13) ∧ (p1 = p1) ∧ (0 ≤ (0 : Int)) ∧ ((0 : Int) ≤ 20) from ⟨rfl, rfl, by omega, by omega⟩)
              · show (20 - (0 : Int)).toNat < 1000000000000
                omega
            · unfold zX9_few_s0_54
              refine dFix_ok (fun (a : dK × Int32 × Int32 × Int32 × Int32) => (TC a.1) ∧ (cFr [] [] q_13 a.1) ∧ (a.2.1 = p1) ∧ (a.2.2.1 = p2) ∧ (a.2.2.2.1 = x3_16) ∧ (-1 ≤ Int32.toInt a.2.2.2.2) ∧ (Int32.toInt a.2.2.2.2 ≤ 19)) (fun (a : dK × Int32 × Int32 × Int32 × Int32) => (Int32.toInt a.2.2.2.2 + 1).toNat) ?_ _ ?_ _ (dF_gt ?_)
              · intro a ha k_41 hk_40
                obtain ⟨q_42, x1_43, x2_44, x3_45, x4_46⟩ := a
                replace ha : (TC q_42) ∧ (cFr [] [] q_13 q_42) ∧ (x1_43 = p1) ∧ (x2_44 = p2) ∧ (x3_45 = x3_16) ∧ (-1 ≤ Int32.toInt x4_46) ∧ (Int32.toInt x4_46 ≤ 19) := ha
                obtain ⟨a_47, a_48, a_49, a_50, a_51, a_52, a_53⟩ := ha
                show dOk (zX9_few_s0_54b _ (fun q x1 x2 x3 x4 => k_41 (q, x1, x2, x3, x4)) q_42 x1_43 x2_44 x3_45 x4_46) _
                unfold zX9_few_s0_54b
                have hFq_42 : cFr [] [] q q_42 := hFq_13.t a_48 (by decide) (by decide)
                subst x1_43
                subst x2_44
                subst x3_45
                refine dOk_lt (A := Int32.toInt x4_46) (B := 0) rfl (by decide) (fun c_54 => ?_) (fun c_55 => ?_)
                · try have t_56 : Int32.toInt (x3_16 + 1) = Int32.toInt x3_16 + 1 := ti_add rfl (by decide) (by omega) (by omega)
                  exact hk_11 (q_42, p1, p2, (x3_16 + 1)) (show (TC q_42) ∧ (cFr [] [] q_10 q_42) ∧ (p1 = p1) ∧ (p2 = p2) ∧ (0 ≤ Int32.toInt (x3_16 + 1)) ∧ (Int32.toInt (x3_16 + 1) ≤ 99) from ⟨a_47, ((((cFr.rf : cFr [] [] q_10 q_10).t a_18 (by decide) (by decide)) : cFr [] [] q_10 q_13).t a_48 (by decide) (by decide)), rfl, rfl, by omega, by omega⟩) (show (99 - Int32.toInt (x3_16 + 1)).toNat < (99 - Int32.toInt x3_16).toNat by omega)
                · refine dOk_G (dg_ok (show 0 ≤ Int32.toInt x4_46 by omega) (show Int32.toInt x4_46 < ((20 : Nat) : Int) by omega)) ?_
                  have n_57 : ((Int32.toNatClampNeg x4_46 : Nat) : Int) = Int32.toInt x4_46 := cl_eq (by omega)
                  refine dOk_L (fun v_58 ev_58 => ?_)
                  refine dOk_L (fun v_59 ev_59 => ?_)
                  refine dOk_eq (A := Int32.toInt x4_46) (B := 0) rfl (by decide) (fun c_60z c_60 => ?_) (fun c_61z c_61 => ?_)
                  · unfold zX9_few_s0_115
                    refine dOk_G (dg_ok (show 0 ≤ Int32.toInt x4_46 by omega) (show Int32.toInt x4_46 < ((20 : Nat) : Int) by omega)) ?_
                    refine dOk_L (fun q_63 eq_63 => ?_)
                    have hTq_63 : TC q_63 := by rw [eq_63]; exact tc_l a_47 (fun _ => by omega)
                    have hFq_63 : cFr [] [] q q_63 := by rw [eq_63]; exact hFq_42.l
                    try have t_64 : Int32.toInt (x4_46 + (-1)) = Int32.toInt x4_46 + (-1) := ti_add rfl (by decide) (by omega) (by omega)
                    exact hk_40 (q_63, p1, p2, x3_16, (x4_46 + (-1))) (show (TC q_63) ∧ (cFr [] [] q_13 q_63) ∧ (p1 = p1) ∧ (p2 = p2) ∧ (x3_16 = x3_16) ∧ (-1 ≤ Int32.toInt (x4_46 + (-1))) ∧ (Int32.toInt (x4_46 + (-1)) ≤ 19) from ⟨hTq_63, (by rw [eq_63]; exact (((cFr.rf : cFr [] [] q_13 q_13).t a_48 (by decide) (by decide)) : cFr [] [] q_13 q_42).l), rfl, rfl, rfl, by omega, by omega⟩) (show (Int32.toInt (x4_46 + (-1)) + 1).toNat < (Int32.toInt x4_46 + 1).toNat by omega)
                  · try have t_65 : Int32.toInt (x4_46 - 1) = Int32.toInt x4_46 - 1 := ti_sub rfl (by decide) (by omega) (by omega)
                    refine dOk_G (dg_ok (show 0 ≤ Int32.toInt (x4_46 - 1) by omega) (show Int32.toInt (x4_46 - 1) < ((20 : Nat) : Int) by omega)) ?_
                    have n_66 : ((Int32.toNatClampNeg (x4_46 - 1) : Nat) : Int) = Int32.toInt (x4_46 - 1) := cl_eq (by omega)
                    refine dOk_L (fun v_67 ev_67 => ?_)
                    unfold zX9_few_s0_115
                    refine dOk_G (dg_ok (show 0 ≤ Int32.toInt x4_46 by omega) (show Int32.toInt x4_46 < ((20 : Nat) : Int) by omega)) ?_
                    refine dOk_L (fun q_68 eq_68 => ?_)
                    have hTq_68 : TC q_68 := by rw [eq_68]; exact tc_l a_47 (fun _ => by omega)
                    have hFq_68 : cFr [] [] q q_68 := by rw [eq_68]; exact hFq_42.l
                    try have t_69 : Int32.toInt (x4_46 + (-1)) = Int32.toInt x4_46 + (-1) := ti_add rfl (by decide) (by omega) (by omega)
                    exact hk_40 (q_68, p1, p2, x3_16, (x4_46 + (-1))) (show (TC q_68) ∧ (cFr [] [] q_13 q_68) ∧ (p1 = p1) ∧ (p2 = p2) ∧ (x3_16 = x3_16) ∧ (-1 ≤ Int32.toInt (x4_46 + (-1))) ∧ (Int32.toInt (x4_46 + (-1)) ≤ 19) from ⟨hTq_68, (by rw [eq_68]; exact (((cFr.rf : cFr [] [] q_13 q_13).t a_48 (by decide) (by decide)) : cFr [] [] q_13 q_42).l), rfl, rfl, rfl, by omega, by omega⟩) (show (Int32.toInt (x4_46 + (-1)) + 1).toNat < (Int32.toInt x4_46 + 1).toNat by omega)
              · try have t_70 : Int32.toInt (p1 - 1) = Int32.toInt p1 - 1 := ti_sub rfl (by decide) (by omega) (by omega)
                exact (show (TC q_13) ∧ (cFr [] [] q_13 q_13) ∧ (p1 = p1) ∧ (p2 = p2) ∧ (x3_16 = x3_16) ∧ (-1 ≤ Int32.toInt (p1 - 1)) ∧ (Int32.toInt (p1 - 1) ≤ 19) from ⟨a_17, cFr.rf, rfl, rfl, rfl, by omega, by omega⟩)
              · try have t_71 : Int32.toInt (p1 - 1) = Int32.toInt p1 - 1 := ti_sub rfl (by decide) (by omega) (by omega)
                show (Int32.toInt (p1 - 1) + 1).toNat < 1000000000000
                omega
          · exact (show (TC q_10) ∧ (cFr [] [] q_10 q_10) ∧ (p1 = p1) ∧ (p2 = p2) ∧ (0 ≤ (0 : Int)) ∧ ((0 : Int) ≤ 99) from ⟨hTq_10, cFr.rf, rfl, rfl, by omega, by omega⟩)
          · show (99 - (0 : Int)).toNat < 1000000000000
            omega
        · unfold zX9_few_s0_21
          exact dOk_some (show (TC q) ∧ (cFr [] [] q q) from ⟨hT, (cFr.rf (q := q))⟩)
end
