set_option maxHeartbeats 4000000 in
set_option maxRecDepth 100000 in
theorem ok_X3_measure_s32 (q : dK) (hT : TC q) (hp0 : LD q) : dOk (zX3_measure_s32 q) (fun (o : dK) => (TC o) ∧ (cFr [37, 42, 44] [(32, 17), (32, 18)] q o)) := by
  unfold zX3_measure_s32
  have hLs := ld_sz hp0
  have hn_2 : ∀ (q_1 : dK), TC q_1 → cFr [37, 42, 44] [(32, 17), (32, 18)] q q_1 → dOk (zX3_measure_s32_30 q_1) (fun (o : dK) => (TC o) ∧ (cFr [37, 42, 44] [(32, 17), (32, 18)] q o)) := by
    intro q_1 hT_3 hF_4
    unfold zX3_measure_s32_30
    refine dOk_L (fun q_5 eq_5 => ?_)
    have hTq_5 : TC q_5 := by rw [eq_5]; exact tc_cfi hT_3 (by decide)
    have hFq_5 : cFr [37, 42, 44] [(32, 17), (32, 18)] q q_5 := by rw [eq_5]; exact hF_4.g (by decide)
    unfold zX3_measure_s32_42
    refine dFix_ok (fun (a : dK × Int32 × Int32) => (TC a.1) ∧ (cFr [42, 44] [] q_5 a.1) ∧ (0 ≤ Int32.toInt a.2.1) ∧ (Int32.toInt a.2.1 = Int32.toInt a.2.2) ∧ (Int32.toInt a.2.1 ≤ Int32.toInt (q_5.1 32 14)) ∧ (BL a.1 (Int32.toInt a.2.1))) (fun (a : dK × Int32 × Int32) => (Int32.toInt (q_5.1 32 14) - Int32.toInt a.2.2).toNat) ?_ _ ?_ _ (dF_gt ?_)
    · intro a ha k_7 hk_6
      obtain ⟨q_8, x1_9, x2_10⟩ := a
      replace ha : (TC q_8) ∧ (cFr [42, 44] [] q_5 q_8) ∧ (0 ≤ Int32.toInt x1_9) ∧ (Int32.toInt x1_9 = Int32.toInt x2_10) ∧ (Int32.toInt x1_9 ≤ Int32.toInt (q_5.1 32 14)) ∧ (BL q_8 (Int32.toInt x1_9)) := ha
      obtain ⟨a_11, a_12, a_13, a_14, a_15, a_16⟩ := ha
      show dOk (zX3_measure_s32_42b  (fun q x1 x2 => k_7 (q, x1, x2)) q_8 x1_9 x2_10) _
      unfold zX3_measure_s32_42b
      have hFq_8 : cFr [37, 42, 44] [(32, 17), (32, 18)] q q_8 := hFq_5.t a_12 (by decide) (by decide)
      have f_17 : 0 ≤ Int32.toInt (q_5.1 32 14) ∧ Int32.toInt (q_5.1 32 14) ≤ 46080 := rg_32_14 hTq_5
      have f_18 : 0 ≤ Int32.toInt (q_1.1 32 14) ∧ Int32.toInt (q_1.1 32 14) ≤ 46080 := rg_32_14 hT_3
      have f_19 : 0 ≤ Int32.toInt (q.1 32 14) ∧ Int32.toInt (q.1 32 14) ≤ 46080 := rg_32_14 hT
      have w_20 : Int32.toInt (q_1.1 32 14) = Int32.toInt (q.1 32 14) := by rw [hF_4.1 32 14 (by decide) (by decide)]
      have w_21 : Int32.toInt (q_5.1 32 14) = Int32.toInt (q_1.1 32 14) := by rw [eq_5]; rfl
      have f_22 : 0 ≤ Int32.toInt (q_8.1 32 14) ∧ Int32.toInt (q_8.1 32 14) ≤ 46080 := rg_32_14 a_11
      have w_23 : Int32.toInt (q_8.1 32 14) = Int32.toInt (q_5.1 32 14) := by rw [a_12.1 32 14 (by decide) (by decide)]
      refine dOk_le (A := Int32.toInt (q_8.1 32 14)) (B := Int32.toInt x2_10) rfl rfl (fun c_24 => ?_) (fun c_25 => ?_)
      · unfold zX3_measure_s32_81
        unfold zX3_measure_s32_83
        refine dFix_ok (fun (a : dK × Int32 × Int32) => (TC a.1) ∧ (cFr [42, 44] [] q_8 a.1) ∧ (0 ≤ Int32.toInt a.2.2) ∧ (Int32.toInt a.2.2 ≤ Int32.toInt a.2.1) ∧ (Int32.toInt a.2.1 ≤ Int32.toInt (q_8.1 32 14)) ∧ (BL a.1 (Int32.toInt a.2.1))) (fun (a : dK × Int32 × Int32) => (Int32.toInt (q_8.1 32 14) - Int32.toInt a.2.2).toNat) ?_ _ ?_ _ (dF_gt ?_)
        · intro a ha k_27 hk_26
          obtain ⟨q_28, x1_29, x2_30⟩ := a
          replace ha : (TC q_28) ∧ (cFr [42, 44] [] q_8 q_28) ∧ (0 ≤ Int32.toInt x2_30) ∧ (Int32.toInt x2_30 ≤ Int32.toInt x1_29) ∧ (Int32.toInt x1_29 ≤ Int32.toInt (q_8.1 32 14)) ∧ (BL q_28 (Int32.toInt x1_29)) := ha
          obtain ⟨a_31, a_32, a_33, a_34, a_35, a_36⟩ := ha
          show dOk (zX3_measure_s32_83b  (fun q x1 x2 => k_27 (q, x1, x2)) q_28 x1_29 x2_30) _
          unfold zX3_measure_s32_83b
          have hFq_28 : cFr [37, 42, 44] [(32, 17), (32, 18)] q q_28 := hFq_8.t a_32 (by decide) (by decide)
          have f_37 : 0 ≤ Int32.toInt (q_28.1 32 14) ∧ Int32.toInt (q_28.1 32 14) ≤ 46080 := rg_32_14 a_31
          have w_38 : Int32.toInt (q_28.1 32 14) = Int32.toInt (q_8.1 32 14) := by rw [a_32.1 32 14 (by decide) (by decide)]
          refine dOk_le (A := Int32.toInt (q_28.1 32 14)) (B := Int32.toInt x2_30) rfl rfl (fun c_39 => ?_) (fun c_40 => ?_)
          · unfold zX3_measure_s32_197
            refine dOk_L (fun q_41 eq_41 => ?_)
            have f_42 : 0 ≤ Int32.toInt (q_28.1 32 13) ∧ Int32.toInt (q_28.1 32 13) ≤ 6 := rg_32_13 a_31
            have f_43 : 0 ≤ Int32.toInt (q_8.1 32 13) ∧ Int32.toInt (q_8.1 32 13) ≤ 6 := rg_32_13 a_11
            have f_44 : 0 ≤ Int32.toInt (q_5.1 32 13) ∧ Int32.toInt (q_5.1 32 13) ≤ 6 := rg_32_13 hTq_5
            have f_45 : 0 ≤ Int32.toInt (q_1.1 32 13) ∧ Int32.toInt (q_1.1 32 13) ≤ 6 := rg_32_13 hT_3
            have f_46 : 0 ≤ Int32.toInt (q.1 32 13) ∧ Int32.toInt (q.1 32 13) ≤ 6 := rg_32_13 hT
            have w_47 : Int32.toInt (q_1.1 32 13) = Int32.toInt (q.1 32 13) := by rw [hF_4.1 32 13 (by decide) (by decide)]
            have w_48 : Int32.toInt (q_5.1 32 13) = Int32.toInt (q_1.1 32 13) := by rw [eq_5]; rfl
            have w_49 : Int32.toInt (q_8.1 32 13) = Int32.toInt (q_5.1 32 13) := by rw [a_12.1 32 13 (by decide) (by decide)]
            have w_50 : Int32.toInt (q_28.1 32 13) = Int32.toInt (q_8.1 32 13) := by rw [a_32.1 32 13 (by decide) (by decide)]
            have hTq_41 : TC q_41 := by rw [eq_41]; exact sa_32_17 a_31
            have hFq_41 : cFr [37, 42, 44] [(32, 17), (32, 18)] q q_41 := by rw [eq_41]; exact hFq_28.f (by decide)
            have hB_51 : BL q_41 (Int32.toInt x1_29) := by rw [eq_41]; exact bl_o a_36 rfl
            refine dOk_L (fun q_52 eq_52 => ?_)
            have w_53 : Int32.toInt (q_1.1 32 16) = Int32.toInt (q.1 32 16) := by rw [hF_4.1 32 16 (by decide) (by decide)]
            have w_54 : Int32.toInt (q_5.1 32 16) = Int32.toInt (q_1.1 32 16) := by rw [eq_5]; rfl
            have w_55 : Int32.toInt (q_8.1 32 16) = Int32.toInt (q_5.1 32 16) := by rw [a_12.1 32 16 (by decide) (by decide)]
            have w_56 : Int32.toInt (q_28.1 32 16) = Int32.toInt (q_8.1 32 16) := by rw [a_32.1 32 16 (by decide) (by decide)]
            have w_57 : Int32.toInt (q_41.1 32 16) = Int32.toInt (q_28.1 32 16) := by rw [eq_41, cui_n (by decide)]
            have hTq_52 : TC q_52 := by rw [eq_52]; exact sa_32_18 hTq_41
            have hFq_52 : cFr [37, 42, 44] [(32, 17), (32, 18)] q q_52 := by rw [eq_52]; exact hFq_41.f (by decide)
            have hB_58 : BL q_52 (Int32.toInt x1_29) := by rw [eq_52]; exact bl_o hB_51 rfl
            refine dOk_L (fun q_59 eq_59 => ?_)
            have hTq_59 : TC q_59 := by rw [eq_59]; exact tc_cci hTq_52 (by decide)
            have hFq_59 : cFr [37, 42, 44] [(32, 17), (32, 18)] q q_59 := by rw [eq_59]; exact hFq_52.c (by decide)
            exact dOk_some (show (TC q_59) ∧ (cFr [37, 42, 44] [(32, 17), (32, 18)] q q_59) from ⟨hTq_59, hFq_59⟩)
          · refine dOk_le (A := Int32.toInt x1_29) (B := Int32.toInt x2_30) rfl rfl (fun c_60 => ?_) (fun c_61 => ?_)
            · unfold zX3_measure_s32_197
              refine dOk_L (fun q_62 eq_62 => ?_)
              have f_63 : 0 ≤ Int32.toInt (q_28.1 32 13) ∧ Int32.toInt (q_28.1 32 13) ≤ 6 := rg_32_13 a_31
              have f_64 : 0 ≤ Int32.toInt (q_8.1 32 13) ∧ Int32.toInt (q_8.1 32 13) ≤ 6 := rg_32_13 a_11
              have f_65 : 0 ≤ Int32.toInt (q_5.1 32 13) ∧ Int32.toInt (q_5.1 32 13) ≤ 6 := rg_32_13 hTq_5
              have f_66 : 0 ≤ Int32.toInt (q_1.1 32 13) ∧ Int32.toInt (q_1.1 32 13) ≤ 6 := rg_32_13 hT_3
              have f_67 : 0 ≤ Int32.toInt (q.1 32 13) ∧ Int32.toInt (q.1 32 13) ≤ 6 := rg_32_13 hT
              have w_68 : Int32.toInt (q_1.1 32 13) = Int32.toInt (q.1 32 13) := by rw [hF_4.1 32 13 (by decide) (by decide)]
              have w_69 : Int32.toInt (q_5.1 32 13) = Int32.toInt (q_1.1 32 13) := by rw [eq_5]; rfl
              have w_70 : Int32.toInt (q_8.1 32 13) = Int32.toInt (q_5.1 32 13) := by rw [a_12.1 32 13 (by decide) (by decide)]
              have w_71 : Int32.toInt (q_28.1 32 13) = Int32.toInt (q_8.1 32 13) := by rw [a_32.1 32 13 (by decide) (by decide)]
              have hTq_62 : TC q_62 := by rw [eq_62]; exact sa_32_17 a_31
              have hFq_62 : cFr [37, 42, 44] [(32, 17), (32, 18)] q q_62 := by rw [eq_62]; exact hFq_28.f (by decide)
              have hB_72 : BL q_62 (Int32.toInt x1_29) := by rw [eq_62]; exact bl_o a_36 rfl
              refine dOk_L (fun q_73 eq_73 => ?_)
              have w_74 : Int32.toInt (q_1.1 32 16) = Int32.toInt (q.1 32 16) := by rw [hF_4.1 32 16 (by decide) (by decide)]
              have w_75 : Int32.toInt (q_5.1 32 16) = Int32.toInt (q_1.1 32 16) := by rw [eq_5]; rfl
              have w_76 : Int32.toInt (q_8.1 32 16) = Int32.toInt (q_5.1 32 16) := by rw [a_12.1 32 16 (by decide) (by decide)]
              have w_77 : Int32.toInt (q_28.1 32 16) = Int32.toInt (q_8.1 32 16) := by rw [a_32.1 32 16 (by decide) (by decide)]
              have w_78 : Int32.toInt (q_62.1 32 16) = Int32.toInt (q_28.1 32 16) := by rw [eq_62, cui_n (by decide)]
              have hTq_73 : TC q_73 := by rw [eq_73]; exact sa_32_18 hTq_62
              have hFq_73 : cFr [37, 42, 44] [(32, 17), (32, 18)] q q_73 := by rw [eq_73]; exact hFq_62.f (by decide)
              have hB_79 : BL q_73 (Int32.toInt x1_29) := by rw [eq_73]; exact bl_o hB_72 rfl
              refine dOk_L (fun q_80 eq_80 => ?_)
              have hTq_80 : TC q_80 := by rw [eq_80]; exact tc_cci hTq_73 (by decide)
              have hFq_80 : cFr [37, 42, 44] [(32, 17), (32, 18)] q q_80 := by rw [eq_80]; exact hFq_73.c (by decide)
              exact dOk_some (show (TC q_80) ∧ (cFr [37, 42, 44] [(32, 17), (32, 18)] q q_80) from ⟨hTq_80, hFq_80⟩)
            · have f_81 : 0 ≤ Int32.toInt (q_28.1 32 105) ∧ Int32.toInt (q_28.1 32 105) ≤ 46080 := rg_32_105 a_31
              have f_82 : 0 ≤ Int32.toInt (q_8.1 32 105) ∧ Int32.toInt (q_8.1 32 105) ≤ 46080 := rg_32_105 a_11
              have f_83 : 0 ≤ Int32.toInt (q_5.1 32 105) ∧ Int32.toInt (q_5.1 32 105) ≤ 46080 := rg_32_105 hTq_5
              have f_84 : 0 ≤ Int32.toInt (q_1.1 32 105) ∧ Int32.toInt (q_1.1 32 105) ≤ 46080 := rg_32_105 hT_3
              have f_85 : 0 ≤ Int32.toInt (q.1 32 105) ∧ Int32.toInt (q.1 32 105) ≤ 46080 := rg_32_105 hT
              have w_86 : Int32.toInt (q_1.1 32 105) = Int32.toInt (q.1 32 105) := by rw [hF_4.1 32 105 (by decide) (by decide)]
              have w_87 : Int32.toInt (q_5.1 32 105) = Int32.toInt (q_1.1 32 105) := by rw [eq_5]; rfl
              have w_88 : Int32.toInt (q_8.1 32 105) = Int32.toInt (q_5.1 32 105) := by rw [a_12.1 32 105 (by decide) (by decide)]
              have w_89 : Int32.toInt (q_28.1 32 105) = Int32.toInt (q_8.1 32 105) := by rw [a_32.1 32 105 (by decide) (by decide)]
              refine dOk_G (dg_ok (show 0 ≤ Int32.toInt x2_30 by omega) (show Int32.toInt x2_30 < ((Int32.toNatClampNeg (q_28.1 32 105) : Nat) : Int) by rw [cl_eq (show 0 ≤ Int32.toInt (q_28.1 32 105) by omega)]; omega)) ?_
              have n_90 : ((Int32.toNatClampNeg x2_30 : Nat) : Int) = Int32.toInt x2_30 := cl_eq (by omega)
              refine dOk_L (fun v_91 ev_91 => ?_)
              have f_92 : 0 ≤ Int32.toInt v_91 ∧ Int32.toInt v_91 < Int32.toInt (q_28.1 32 14) := by rw [ev_91]; exact a_36 _ (show ((Int32.toNatClampNeg x2_30 : Nat) : Int) < Int32.toInt x1_29 by omega)
              unfold zX3_measure_s32_106
              refine dFix_ok (fun (a : dK × Int32 × Int32 × Int32 × Int32) => (TC a.1) ∧ (cFr [42, 44] [] q_28 a.1) ∧ (a.2.2.1 = x2_30) ∧ (a.2.2.2.1 = v_91) ∧ (1 ≤ Int32.toInt a.2.2.2.2) ∧ (Int32.toInt a.2.2.2.2 ≤ 7) ∧ (Int32.toInt a.2.2.1 < Int32.toInt a.2.1) ∧ (Int32.toInt a.2.1 ≤ Int32.toInt (q_28.1 32 14)) ∧ (BL a.1 (Int32.toInt a.2.1))) (fun (a : dK × Int32 × Int32 × Int32 × Int32) => (7 - Int32.toInt a.2.2.2.2).toNat) ?_ _ ?_ _ (dF_gt ?_)
              · intro a ha k_94 hk_93
                obtain ⟨q_95, x1_96, x2_97, x3_98, x4_99⟩ := a
                replace ha : (TC q_95) ∧ (cFr [42, 44] [] q_28 q_95) ∧ (x2_97 = x2_30) ∧ (x3_98 = v_91) ∧ (1 ≤ Int32.toInt x4_99) ∧ (Int32.toInt x4_99 ≤ 7) ∧ (Int32.toInt x2_97 < Int32.toInt x1_96) ∧ (Int32.toInt x1_96 ≤ Int32.toInt (q_28.1 32 14)) ∧ (BL q_95 (Int32.toInt x1_96)) := ha
                obtain ⟨a_100, a_101, a_102, a_103, a_104, a_105, a_106, a_107, a_108⟩ := ha
                show dOk (zX3_measure_s32_106b _ (fun q x1 x2 x3 x4 => k_94 (q, x1, x2, x3, x4)) q_95 x1_96 x2_97 x3_98 x4_99) _
                unfold zX3_measure_s32_106b
                have hFq_95 : cFr [37, 42, 44] [(32, 17), (32, 18)] q q_95 := hFq_28.t a_101 (by decide) (by decide)
                subst x2_97
                subst x3_98
                have f_109 : 0 ≤ Int32.toInt (q_95.1 32 13) ∧ Int32.toInt (q_95.1 32 13) ≤ 6 := rg_32_13 a_100
                have f_110 : 0 ≤ Int32.toInt (q_28.1 32 13) ∧ Int32.toInt (q_28.1 32 13) ≤ 6 := rg_32_13 a_31
                have f_111 : 0 ≤ Int32.toInt (q_8.1 32 13) ∧ Int32.toInt (q_8.1 32 13) ≤ 6 := rg_32_13 a_11
                have f_112 : 0 ≤ Int32.toInt (q_5.1 32 13) ∧ Int32.toInt (q_5.1 32 13) ≤ 6 := rg_32_13 hTq_5
                have f_113 : 0 ≤ Int32.toInt (q_1.1 32 13) ∧ Int32.toInt (q_1.1 32 13) ≤ 6 := rg_32_13 hT_3
                have f_114 : 0 ≤ Int32.toInt (q.1 32 13) ∧ Int32.toInt (q.1 32 13) ≤ 6 := rg_32_13 hT
                have w_115 : Int32.toInt (q_1.1 32 13) = Int32.toInt (q.1 32 13) := by rw [hF_4.1 32 13 (by decide) (by decide)]
                have w_116 : Int32.toInt (q_5.1 32 13) = Int32.toInt (q_1.1 32 13) := by rw [eq_5]; rfl
                have w_117 : Int32.toInt (q_8.1 32 13) = Int32.toInt (q_5.1 32 13) := by rw [a_12.1 32 13 (by decide) (by decide)]
                have w_118 : Int32.toInt (q_28.1 32 13) = Int32.toInt (q_8.1 32 13) := by rw [a_32.1 32 13 (by decide) (by decide)]
                have w_119 : Int32.toInt (q_95.1 32 13) = Int32.toInt (q_28.1 32 13) := by rw [a_101.1 32 13 (by decide) (by decide)]
                refine dOk_lt (A := Int32.toInt (q_95.1 32 13)) (B := Int32.toInt x4_99) rfl rfl (fun c_120 => ?_) (fun c_121 => ?_)
                · try have t_122 : Int32.toInt (x2_30 + 1) = Int32.toInt x2_30 + 1 := ti_add rfl (by decide) (by omega) (by omega)
                  exact hk_26 (q_95, x1_96, (x2_30 + 1)) (show (TC q_95) ∧ (cFr [42, 44] [] q_8 q_95) ∧ (0 ≤ Int32.toInt (x2_30 + 1)) ∧ (Int32.toInt (x2_30 + 1) ≤ Int32.toInt x1_96) ∧ (Int32.toInt x1_96 ≤ Int32.toInt (q_8.1 32 14)) ∧ (BL q_95 (Int32.toInt x1_96)) from ⟨a_100, ((((cFr.rf : cFr [42, 44] [] q_8 q_8).t a_32 (by decide) (by decide)) : cFr [42, 44] [] q_8 q_28).t a_101 (by decide) (by decide)), by omega, by omega, by omega, bl_c (n := Int32.toInt x1_96) a_108 (show Int32.toInt x1_96 ≤ Int32.toInt x1_96 by omega)⟩) (show (Int32.toInt (q_8.1 32 14) - Int32.toInt (x2_30 + 1)).toNat < (Int32.toInt (q_8.1 32 14) - Int32.toInt x2_30).toNat by omega)
                · have f_123 : 0 ≤ Int32.toInt (q_95.1 32 14) ∧ Int32.toInt (q_95.1 32 14) ≤ 46080 := rg_32_14 a_100
                  have w_124 : Int32.toInt (q_95.1 32 14) = Int32.toInt (q_28.1 32 14) := by rw [a_101.1 32 14 (by decide) (by decide)]
                  refine dOk_B (ok_X3_turned_s32 q_95 v_91 x4_99 a_100 (ld_fr hp0 hFq_95 rfl) (show 0 ≤ Int32.toInt v_91 by omega) (show Int32.toInt v_91 < Int32.toInt (q_95.1 32 14) by omega)) (fun r_125 q_126 h_127 => ?_)
                  replace h_127 : (q_126 = q_95) ∧ (0 ≤ Int32.toInt r_125) ∧ (Int32.toInt r_125 < Int32.toInt (q_95.1 32 14)) := h_127
                  obtain ⟨i_128, i_129, i_130⟩ := h_127
                  subst q_126
                  have f_131 : 0 ≤ Int32.toInt (q_95.1 32 103) ∧ Int32.toInt (q_95.1 32 103) ≤ 46080 := rg_32_103 a_100
                  have f_132 : 0 ≤ Int32.toInt (q_28.1 32 103) ∧ Int32.toInt (q_28.1 32 103) ≤ 46080 := rg_32_103 a_31
                  have f_133 : 0 ≤ Int32.toInt (q_8.1 32 103) ∧ Int32.toInt (q_8.1 32 103) ≤ 46080 := rg_32_103 a_11
                  have f_134 : 0 ≤ Int32.toInt (q_5.1 32 103) ∧ Int32.toInt (q_5.1 32 103) ≤ 46080 := rg_32_103 hTq_5
                  have f_135 : 0 ≤ Int32.toInt (q_1.1 32 103) ∧ Int32.toInt (q_1.1 32 103) ≤ 46080 := rg_32_103 hT_3
                  have f_136 : 0 ≤ Int32.toInt (q.1 32 103) ∧ Int32.toInt (q.1 32 103) ≤ 46080 := rg_32_103 hT
                  have w_137 : Int32.toInt (q_1.1 32 103) = Int32.toInt (q.1 32 103) := by rw [hF_4.1 32 103 (by decide) (by decide)]
                  have w_138 : Int32.toInt (q_5.1 32 103) = Int32.toInt (q_1.1 32 103) := by rw [eq_5]; rfl
                  have w_139 : Int32.toInt (q_8.1 32 103) = Int32.toInt (q_5.1 32 103) := by rw [a_12.1 32 103 (by decide) (by decide)]
                  have w_140 : Int32.toInt (q_28.1 32 103) = Int32.toInt (q_8.1 32 103) := by rw [a_32.1 32 103 (by decide) (by decide)]
                  have w_141 : Int32.toInt (q_95.1 32 103) = Int32.toInt (q_28.1 32 103) := by rw [a_101.1 32 103 (by decide) (by decide)]
                  refine dOk_G (dg_ok (show 0 ≤ Int32.toInt r_125 by omega) (show Int32.toInt r_125 < ((Int32.toNatClampNeg (q_95.1 32 103) : Nat) : Int) by rw [cl_eq (show 0 ≤ Int32.toInt (q_95.1 32 103) by omega)]; omega)) ?_
                  have n_142 : ((Int32.toNatClampNeg r_125 : Nat) : Int) = Int32.toInt r_125 := cl_eq (by omega)
                  refine dOk_L (fun v_143 ev_143 => ?_)
                  refine dOk_eq (A := Int32.toInt v_143) (B := (-1)) rfl (by decide) (fun c_144z c_144 => ?_) (fun c_145z c_145 => ?_)
                  · refine dOk_B (ok_X3_caseOf_s32 q_95 r_125 x4_99 a_100 (ld_fr hp0 hFq_95 rfl) (show 0 ≤ Int32.toInt r_125 by omega) (show Int32.toInt r_125 < Int32.toInt (q_95.1 32 14) by omega) (show 1 ≤ Int32.toInt x4_99 by omega) (show Int32.toInt x4_99 ≤ Int32.toInt (q_95.1 32 13) by omega)) (fun r_147 q_148 h_149 => ?_)
                    replace h_149 : (q_148 = q_95) ∧ (0 ≤ Int32.toInt r_147) ∧ (Int32.toInt r_147 < 504) := h_149
                    obtain ⟨i_150, i_151, i_152⟩ := h_149
                    subst q_148
                    refine dOk_G (dg_ok (show 0 ≤ Int32.toInt r_147 by omega) (show Int32.toInt r_147 < ((504 : Nat) : Int) by omega)) ?_
                    have n_153 : ((Int32.toNatClampNeg r_147 : Nat) : Int) = Int32.toInt r_147 := cl_eq (by omega)
                    refine dOk_L (fun v_154 ev_154 => ?_)
                    refine dOk_eq (A := Int32.toInt v_154) (B := 0) rfl (by decide) (fun c_155z c_155 => ?_) (fun c_156z c_156 => ?_)
                    · refine dOk_le (A := Int32.toInt (q_95.1 32 14)) (B := Int32.toInt x1_96) rfl rfl (fun c_158 => ?_) (fun c_159 => ?_)
                      · unfold zX3_measure_s32_185
                        try have t_160 : Int32.toInt (x4_99 + 1) = Int32.toInt x4_99 + 1 := ti_add rfl (by decide) (by omega) (by omega)
                        exact hk_93 (q_95, x1_96, x2_30, v_91, (x4_99 + 1)) (show (TC q_95) ∧ (cFr [42, 44] [] q_28 q_95) ∧ (x2_30 = x2_30) ∧ (v_91 = v_91) ∧ (1 ≤ Int32.toInt (x4_99 + 1)) ∧ (Int32.toInt (x4_99 + 1) ≤ 7) ∧ (Int32.toInt x2_30 < Int32.toInt x1_96) ∧ (Int32.toInt x1_96 ≤ Int32.toInt (q_28.1 32 14)) ∧ (BL q_95 (Int32.toInt x1_96)) from ⟨a_100, ((cFr.rf : cFr [42, 44] [] q_28 q_28).t a_101 (by decide) (by decide)), rfl, rfl, by omega, by omega, by omega, by omega, bl_c (n := Int32.toInt x1_96) a_108 (show Int32.toInt x1_96 ≤ Int32.toInt x1_96 by omega)⟩) (show (7 - Int32.toInt (x4_99 + 1)).toNat < (7 - Int32.toInt x4_99).toNat by omega)
                      · refine dOk_G (dg_ok (show 0 ≤ Int32.toInt v_91 by omega) (show Int32.toInt v_91 < ((Int32.toNatClampNeg (q_95.1 32 103) : Nat) : Int) by rw [cl_eq (show 0 ≤ Int32.toInt (q_95.1 32 103) by omega)]; omega)) ?_
                        have n_161 : ((Int32.toNatClampNeg v_91 : Nat) : Int) = Int32.toInt v_91 := cl_eq (by omega)
                        refine dOk_L (fun v_162 ev_162 => ?_)
                        refine dOk_G (dg_ok (show 0 ≤ Int32.toInt r_125 by omega) (show Int32.toInt r_125 < ((Int32.toNatClampNeg (q_95.1 32 103) : Nat) : Int) by rw [cl_eq (show 0 ≤ Int32.toInt (q_95.1 32 103) by omega)]; omega)) ?_
                        refine dOk_L (fun q_163 eq_163 => ?_)
                        have hTq_163 : TC q_163 := by rw [eq_163]; exact sa_42 a_100
                        have hFq_163 : cFr [37, 42, 44] [(32, 17), (32, 18)] q q_163 := by rw [eq_163]; exact hFq_95.i (by decide)
                        have hB_164 : BL q_163 (Int32.toInt x1_96) := by rw [eq_163]; exact bl_o a_108 rfl
                        have f_165 : 0 ≤ Int32.toInt (q_163.1 32 105) ∧ Int32.toInt (q_163.1 32 105) ≤ 46080 := rg_32_105 hTq_163
                        have f_166 : 0 ≤ Int32.toInt (q_95.1 32 105) ∧ Int32.toInt (q_95.1 32 105) ≤ 46080 := rg_32_105 a_100
                        have w_167 : Int32.toInt (q_95.1 32 105) = Int32.toInt (q_28.1 32 105) := by rw [a_101.1 32 105 (by decide) (by decide)]
                        try have w_168 : Int32.toInt (q_163.1 32 105) = Int32.toInt (q_95.1 32 105) := by rw [eq_163, cui_o (by decide)]
                        refine dOk_G (dg_ok (show 0 ≤ Int32.toInt x1_96 by omega) (show Int32.toInt x1_96 < ((Int32.toNatClampNeg (q_163.1 32 105) : Nat) : Int) by rw [cl_eq (show 0 ≤ Int32.toInt (q_163.1 32 105) by omega)]; omega)) ?_
                        have n_169 : ((Int32.toNatClampNeg x1_96 : Nat) : Int) = Int32.toInt x1_96 := cl_eq (by omega)
                        refine dOk_L (fun q_170 eq_170 => ?_)
                        have hTq_170 : TC q_170 := by rw [eq_170]; exact sa_44 hTq_163
                        have hFq_170 : cFr [37, 42, 44] [(32, 17), (32, 18)] q q_170 := by rw [eq_170]; exact hFq_163.i (by decide)
                        have f_171 : 0 ≤ Int32.toInt (q_163.1 32 14) ∧ Int32.toInt (q_163.1 32 14) ≤ 46080 := rg_32_14 hTq_163
                        try have w_172 : Int32.toInt (q_163.1 32 14) = Int32.toInt (q_95.1 32 14) := by rw [eq_163, cui_o (by decide)]
                        have hB_173 : BL q_170 (Int32.toInt x1_96 + 1) := by rw [eq_170]; exact bl_p (n := Int32.toInt x1_96) hB_164 (show ((Int32.toNatClampNeg x1_96 : Nat) : Int) = Int32.toInt x1_96 by omega) (show 0 ≤ Int32.toInt r_125 by omega) (show Int32.toInt r_125 < Int32.toInt (q_163.1 32 14) by omega)
                        unfold zX3_measure_s32_185
                        try have t_174 : Int32.toInt (x1_96 + 1) = Int32.toInt x1_96 + 1 := ti_add rfl (by decide) (by omega) (by omega)
                        try have t_175 : Int32.toInt (x4_99 + 1) = Int32.toInt x4_99 + 1 := ti_add rfl (by decide) (by omega) (by omega)
                        exact hk_93 (q_170, (x1_96 + 1), x2_30, v_91, (x4_99 + 1)) (show (TC q_170) ∧ (cFr [42, 44] [] q_28 q_170) ∧ (x2_30 = x2_30) ∧ (v_91 = v_91) ∧ (1 ≤ Int32.toInt (x4_99 + 1)) ∧ (Int32.toInt (x4_99 + 1) ≤ 7) ∧ (Int32.toInt x2_30 < Int32.toInt (x1_96 + 1)) ∧ (Int32.toInt (x1_96 + 1) ≤ Int32.toInt (q_28.1 32 14)) ∧ (BL q_170 (Int32.toInt (x1_96 + 1))) from ⟨hTq_170, (by rw [eq_170]; exact ((by rw [eq_163]; exact (((cFr.rf : cFr [42, 44] [] q_28 q_28).t a_101 (by decide) (by decide)) : cFr [42, 44] [] q_28 q_95).i (by decide)) : cFr [42, 44] [] q_28 q_163).i (by decide)), rfl, rfl, by omega, by omega, by omega, by omega, bl_c (n := Int32.toInt x1_96 + 1) hB_173 (show Int32.toInt (x1_96 + 1) ≤ Int32.toInt x1_96 + 1 by omega)⟩) (show (7 - Int32.toInt (x4_99 + 1)).toNat < (7 - Int32.toInt x4_99).toNat by omega)
                    · unfold zX3_measure_s32_185
                      try have t_176 : Int32.toInt (x4_99 + 1) = Int32.toInt x4_99 + 1 := ti_add rfl (by decide) (by omega) (by omega)
                      exact hk_93 (q_95, x1_96, x2_30, v_91, (x4_99 + 1)) (show (TC q_95) ∧ (cFr [42, 44] [] q_28 q_95) ∧ (x2_30 = x2_30) ∧ (v_91 = v_91) ∧ (1 ≤ Int32.toInt (x4_99 + 1)) ∧ (Int32.toInt (x4_99 + 1) ≤ 7) ∧ (Int32.toInt x2_30 < Int32.toInt x1_96) ∧ (Int32.toInt x1_96 ≤ Int32.toInt (q_28.1 32 14)) ∧ (BL q_95 (Int32.toInt x1_96)) from ⟨a_100, ((cFr.rf : cFr [42, 44] [] q_28 q_28).t a_101 (by decide) (by decide)), rfl, rfl, by omega, by omega, by omega, by omega, bl_c (n := Int32.toInt x1_96) a_108 (show Int32.toInt x1_96 ≤ Int32.toInt x1_96 by omega)⟩) (show (7 - Int32.toInt (x4_99 + 1)).toNat < (7 - Int32.toInt x4_99).toNat by omega)
                  · unfold zX3_measure_s32_185
                    try have t_177 : Int32.toInt (x4_99 + 1) = Int32.toInt x4_99 + 1 := ti_add rfl (by decide) (by omega) (by omega)
                    exact hk_93 (q_95, x1_96, x2_30, v_91, (x4_99 + 1)) (show (TC q_95) ∧ (cFr [42, 44] [] q_28 q_95) ∧ (x2_30 = x2_30) ∧ (v_91 = v_91) ∧ (1 ≤ Int32.toInt (x4_99 + 1)) ∧ (Int32.toInt (x4_99 + 1) ≤ 7) ∧ (Int32.toInt x2_30 < Int32.toInt x1_96) ∧ (Int32.toInt x1_96 ≤ Int32.toInt (q_28.1 32 14)) ∧ (BL q_95 (Int32.toInt x1_96)) from ⟨a_100, ((cFr.rf : cFr [42, 44] [] q_28 q_28).t a_101 (by decide) (by decide)), rfl, rfl, by omega, by omega, by omega, by omega, bl_c (n := Int32.toInt x1_96) a_108 (show Int32.toInt x1_96 ≤ Int32.toInt x1_96 by omega)⟩) (show (7 - Int32.toInt (x4_99 + 1)).toNat < (7 - Int32.toInt x4_99).toNat by omega)
              · exact (show (TC q_28) ∧ (cFr [42, 44] [] q_28 q_28) ∧ (x2_30 = x2_30) ∧ (v_91 = v_91) ∧ (1 ≤ (1 : Int)) ∧ ((1 : Int) ≤ 7) ∧ (Int32.toInt x2_30 < Int32.toInt x1_29) ∧ (Int32.toInt x1_29 ≤ Int32.toInt (q_28.1 32 14)) ∧ (BL q_28 (Int32.toInt x1_29)) from ⟨a_31, cFr.rf, rfl, rfl, by omega, by omega, by omega, by omega, bl_c (n := Int32.toInt x1_29) a_36 (show Int32.toInt x1_29 ≤ Int32.toInt x1_29 by omega)⟩)
              · show (7 - (1 : Int)).toNat < 1000000000000
                omega
        · exact (show (TC q_8) ∧ (cFr [42, 44] [] q_8 q_8) ∧ (0 ≤ (0 : Int)) ∧ ((0 : Int) ≤ Int32.toInt x1_9) ∧ (Int32.toInt x1_9 ≤ Int32.toInt (q_8.1 32 14)) ∧ (BL q_8 (Int32.toInt x1_9)) from ⟨a_11, cFr.rf, by omega, by omega, by omega, bl_c (n := Int32.toInt x1_9) a_16 (show Int32.toInt x1_9 ≤ Int32.toInt x1_9 by omega)⟩)
        · show (Int32.toInt (q_8.1 32 14) - (0 : Int)).toNat < 1000000000000
          omega
      · refine dOk_B (ok_X3_isOrdered_s32 q_8 x2_10 a_11) (fun r_178 q_179 h_180 => ?_)
        replace h_180 : (q_179 = q_8) ∧ ((Int32.toInt r_178 = 0 ∨ Int32.toInt r_178 = 1)) := h_180
        obtain ⟨i_181, i_182⟩ := h_180
        subst q_179
        refine dOk_eq (A := Int32.toInt r_178) (B := 0) rfl (by decide) (fun c_183z c_183 => ?_) (fun c_184z c_184 => ?_)
        · unfold zX3_measure_s32_81
          unfold zX3_measure_s32_83
          refine dFix_ok (fun (a : dK × Int32 × Int32) => (TC a.1) ∧ (cFr [42, 44] [] q_8 a.1) ∧ (0 ≤ Int32.toInt a.2.2) ∧ (Int32.toInt a.2.2 ≤ Int32.toInt a.2.1) ∧ (Int32.toInt a.2.1 ≤ Int32.toInt (q_8.1 32 14)) ∧ (BL a.1 (Int32.toInt a.2.1))) (fun (a : dK × Int32 × Int32) => (Int32.toInt (q_8.1 32 14) - Int32.toInt a.2.2).toNat) ?_ _ ?_ _ (dF_gt ?_)
          · intro a ha k_187 hk_186
            obtain ⟨q_188, x1_189, x2_190⟩ := a
            replace ha : (TC q_188) ∧ (cFr [42, 44] [] q_8 q_188) ∧ (0 ≤ Int32.toInt x2_190) ∧ (Int32.toInt x2_190 ≤ Int32.toInt x1_189) ∧ (Int32.toInt x1_189 ≤ Int32.toInt (q_8.1 32 14)) ∧ (BL q_188 (Int32.toInt x1_189)) := ha
            obtain ⟨a_191, a_192, a_193, a_194, a_195, a_196⟩ := ha
            show dOk (zX3_measure_s32_83b  (fun q x1 x2 => k_187 (q, x1, x2)) q_188 x1_189 x2_190) _
            unfold zX3_measure_s32_83b
            have hFq_188 : cFr [37, 42, 44] [(32, 17), (32, 18)] q q_188 := hFq_8.t a_192 (by decide) (by decide)
            have f_197 : 0 ≤ Int32.toInt (q_188.1 32 14) ∧ Int32.toInt (q_188.1 32 14) ≤ 46080 := rg_32_14 a_191
            have w_198 : Int32.toInt (q_188.1 32 14) = Int32.toInt (q_8.1 32 14) := by rw [a_192.1 32 14 (by decide) (by decide)]
            refine dOk_le (A := Int32.toInt (q_188.1 32 14)) (B := Int32.toInt x2_190) rfl rfl (fun c_199 => ?_) (fun c_200 => ?_)
            · unfold zX3_measure_s32_197
              refine dOk_L (fun q_201 eq_201 => ?_)
              have f_202 : 0 ≤ Int32.toInt (q_188.1 32 13) ∧ Int32.toInt (q_188.1 32 13) ≤ 6 := rg_32_13 a_191
              have f_203 : 0 ≤ Int32.toInt (q_8.1 32 13) ∧ Int32.toInt (q_8.1 32 13) ≤ 6 := rg_32_13 a_11
              have f_204 : 0 ≤ Int32.toInt (q_5.1 32 13) ∧ Int32.toInt (q_5.1 32 13) ≤ 6 := rg_32_13 hTq_5
              have f_205 : 0 ≤ Int32.toInt (q_1.1 32 13) ∧ Int32.toInt (q_1.1 32 13) ≤ 6 := rg_32_13 hT_3
              have f_206 : 0 ≤ Int32.toInt (q.1 32 13) ∧ Int32.toInt (q.1 32 13) ≤ 6 := rg_32_13 hT
              have w_207 : Int32.toInt (q_1.1 32 13) = Int32.toInt (q.1 32 13) := by rw [hF_4.1 32 13 (by decide) (by decide)]
              have w_208 : Int32.toInt (q_5.1 32 13) = Int32.toInt (q_1.1 32 13) := by rw [eq_5]; rfl
              have w_209 : Int32.toInt (q_8.1 32 13) = Int32.toInt (q_5.1 32 13) := by rw [a_12.1 32 13 (by decide) (by decide)]
              have w_210 : Int32.toInt (q_188.1 32 13) = Int32.toInt (q_8.1 32 13) := by rw [a_192.1 32 13 (by decide) (by decide)]
              have hTq_201 : TC q_201 := by rw [eq_201]; exact sa_32_17 a_191
              have hFq_201 : cFr [37, 42, 44] [(32, 17), (32, 18)] q q_201 := by rw [eq_201]; exact hFq_188.f (by decide)
              have hB_211 : BL q_201 (Int32.toInt x1_189) := by rw [eq_201]; exact bl_o a_196 rfl
              refine dOk_L (fun q_212 eq_212 => ?_)
              have w_213 : Int32.toInt (q_1.1 32 16) = Int32.toInt (q.1 32 16) := by rw [hF_4.1 32 16 (by decide) (by decide)]
              have w_214 : Int32.toInt (q_5.1 32 16) = Int32.toInt (q_1.1 32 16) := by rw [eq_5]; rfl
              have w_215 : Int32.toInt (q_8.1 32 16) = Int32.toInt (q_5.1 32 16) := by rw [a_12.1 32 16 (by decide) (by decide)]
              have w_216 : Int32.toInt (q_188.1 32 16) = Int32.toInt (q_8.1 32 16) := by rw [a_192.1 32 16 (by decide) (by decide)]
              have w_217 : Int32.toInt (q_201.1 32 16) = Int32.toInt (q_188.1 32 16) := by rw [eq_201, cui_n (by decide)]
              have hTq_212 : TC q_212 := by rw [eq_212]; exact sa_32_18 hTq_201
              have hFq_212 : cFr [37, 42, 44] [(32, 17), (32, 18)] q q_212 := by rw [eq_212]; exact hFq_201.f (by decide)
              have hB_218 : BL q_212 (Int32.toInt x1_189) := by rw [eq_212]; exact bl_o hB_211 rfl
              refine dOk_L (fun q_219 eq_219 => ?_)
              have hTq_219 : TC q_219 := by rw [eq_219]; exact tc_cci hTq_212 (by decide)
              have hFq_219 : cFr [37, 42, 44] [(32, 17), (32, 18)] q q_219 := by rw [eq_219]; exact hFq_212.c (by decide)
              exact dOk_some (show (TC q_219) ∧ (cFr [37, 42, 44] [(32, 17), (32, 18)] q q_219) from ⟨hTq_219, hFq_219⟩)
            · refine dOk_le (A := Int32.toInt x1_189) (B := Int32.toInt x2_190) rfl rfl (fun c_220 => ?_) (fun c_221 => ?_)
              · unfold zX3_measure_s32_197
                refine dOk_L (fun q_222 eq_222 => ?_)
                have f_223 : 0 ≤ Int32.toInt (q_188.1 32 13) ∧ Int32.toInt (q_188.1 32 13) ≤ 6 := rg_32_13 a_191
                have f_224 : 0 ≤ Int32.toInt (q_8.1 32 13) ∧ Int32.toInt (q_8.1 32 13) ≤ 6 := rg_32_13 a_11
                have f_225 : 0 ≤ Int32.toInt (q_5.1 32 13) ∧ Int32.toInt (q_5.1 32 13) ≤ 6 := rg_32_13 hTq_5
                have f_226 : 0 ≤ Int32.toInt (q_1.1 32 13) ∧ Int32.toInt (q_1.1 32 13) ≤ 6 := rg_32_13 hT_3
                have f_227 : 0 ≤ Int32.toInt (q.1 32 13) ∧ Int32.toInt (q.1 32 13) ≤ 6 := rg_32_13 hT
                have w_228 : Int32.toInt (q_1.1 32 13) = Int32.toInt (q.1 32 13) := by rw [hF_4.1 32 13 (by decide) (by decide)]
                have w_229 : Int32.toInt (q_5.1 32 13) = Int32.toInt (q_1.1 32 13) := by rw [eq_5]; rfl
                have w_230 : Int32.toInt (q_8.1 32 13) = Int32.toInt (q_5.1 32 13) := by rw [a_12.1 32 13 (by decide) (by decide)]
                have w_231 : Int32.toInt (q_188.1 32 13) = Int32.toInt (q_8.1 32 13) := by rw [a_192.1 32 13 (by decide) (by decide)]
                have hTq_222 : TC q_222 := by rw [eq_222]; exact sa_32_17 a_191
                have hFq_222 : cFr [37, 42, 44] [(32, 17), (32, 18)] q q_222 := by rw [eq_222]; exact hFq_188.f (by decide)
                have hB_232 : BL q_222 (Int32.toInt x1_189) := by rw [eq_222]; exact bl_o a_196 rfl
                refine dOk_L (fun q_233 eq_233 => ?_)
                have w_234 : Int32.toInt (q_1.1 32 16) = Int32.toInt (q.1 32 16) := by rw [hF_4.1 32 16 (by decide) (by decide)]
                have w_235 : Int32.toInt (q_5.1 32 16) = Int32.toInt (q_1.1 32 16) := by rw [eq_5]; rfl
                have w_236 : Int32.toInt (q_8.1 32 16) = Int32.toInt (q_5.1 32 16) := by rw [a_12.1 32 16 (by decide) (by decide)]
                have w_237 : Int32.toInt (q_188.1 32 16) = Int32.toInt (q_8.1 32 16) := by rw [a_192.1 32 16 (by decide) (by decide)]
                have w_238 : Int32.toInt (q_222.1 32 16) = Int32.toInt (q_188.1 32 16) := by rw [eq_222, cui_n (by decide)]
                have hTq_233 : TC q_233 := by rw [eq_233]; exact sa_32_18 hTq_222
                have hFq_233 : cFr [37, 42, 44] [(32, 17), (32, 18)] q q_233 := by rw [eq_233]; exact hFq_222.f (by decide)
                have hB_239 : BL q_233 (Int32.toInt x1_189) := by rw [eq_233]; exact bl_o hB_232 rfl
                refine dOk_L (fun q_240 eq_240 => ?_)
                have hTq_240 : TC q_240 := by rw [eq_240]; exact tc_cci hTq_233 (by decide)
                have hFq_240 : cFr [37, 42, 44] [(32, 17), (32, 18)] q q_240 := by rw [eq_240]; exact hFq_233.c (by decide)
                exact dOk_some (show (TC q_240) ∧ (cFr [37, 42, 44] [(32, 17), (32, 18)] q q_240) from ⟨hTq_240, hFq_240⟩)
              · have f_241 : 0 ≤ Int32.toInt (q_188.1 32 105) ∧ Int32.toInt (q_188.1 32 105) ≤ 46080 := rg_32_105 a_191
                have f_242 : 0 ≤ Int32.toInt (q_8.1 32 105) ∧ Int32.toInt (q_8.1 32 105) ≤ 46080 := rg_32_105 a_11
                have f_243 : 0 ≤ Int32.toInt (q_5.1 32 105) ∧ Int32.toInt (q_5.1 32 105) ≤ 46080 := rg_32_105 hTq_5
                have f_244 : 0 ≤ Int32.toInt (q_1.1 32 105) ∧ Int32.toInt (q_1.1 32 105) ≤ 46080 := rg_32_105 hT_3
                have f_245 : 0 ≤ Int32.toInt (q.1 32 105) ∧ Int32.toInt (q.1 32 105) ≤ 46080 := rg_32_105 hT
                have w_246 : Int32.toInt (q_1.1 32 105) = Int32.toInt (q.1 32 105) := by rw [hF_4.1 32 105 (by decide) (by decide)]
                have w_247 : Int32.toInt (q_5.1 32 105) = Int32.toInt (q_1.1 32 105) := by rw [eq_5]; rfl
                have w_248 : Int32.toInt (q_8.1 32 105) = Int32.toInt (q_5.1 32 105) := by rw [a_12.1 32 105 (by decide) (by decide)]
                have w_249 : Int32.toInt (q_188.1 32 105) = Int32.toInt (q_8.1 32 105) := by rw [a_192.1 32 105 (by decide) (by decide)]
                refine dOk_G (dg_ok (show 0 ≤ Int32.toInt x2_190 by omega) (show Int32.toInt x2_190 < ((Int32.toNatClampNeg (q_188.1 32 105) : Nat) : Int) by rw [cl_eq (show 0 ≤ Int32.toInt (q_188.1 32 105) by omega)]; omega)) ?_
                have n_250 : ((Int32.toNatClampNeg x2_190 : Nat) : Int) = Int32.toInt x2_190 := cl_eq (by omega)
                refine dOk_L (fun v_251 ev_251 => ?_)
                have f_252 : 0 ≤ Int32.toInt v_251 ∧ Int32.toInt v_251 < Int32.toInt (q_188.1 32 14) := by rw [ev_251]; exact a_196 _ (show ((Int32.toNatClampNeg x2_190 : Nat) : Int) < Int32.toInt x1_189 by omega)
                unfold zX3_measure_s32_106
                refine dFix_ok (fun (a : dK × Int32 × Int32 × Int32 × Int32) => (TC a.1) ∧ (cFr [42, 44] [] q_188 a.1) ∧ (a.2.2.1 = x2_190) ∧ (a.2.2.2.1 = v_251) ∧ (1 ≤ Int32.toInt a.2.2.2.2) ∧ (Int32.toInt a.2.2.2.2 ≤ 7) ∧ (Int32.toInt a.2.2.1 < Int32.toInt a.2.1) ∧ (Int32.toInt a.2.1 ≤ Int32.toInt (q_188.1 32 14)) ∧ (BL a.1 (Int32.toInt a.2.1))) (fun (a : dK × Int32 × Int32 × Int32 × Int32) => (7 - Int32.toInt a.2.2.2.2).toNat) ?_ _ ?_ _ (dF_gt ?_)
                · intro a ha k_254 hk_253
                  obtain ⟨q_255, x1_256, x2_257, x3_258, x4_259⟩ := a
                  replace ha : (TC q_255) ∧ (cFr [42, 44] [] q_188 q_255) ∧ (x2_257 = x2_190) ∧ (x3_258 = v_251) ∧ (1 ≤ Int32.toInt x4_259) ∧ (Int32.toInt x4_259 ≤ 7) ∧ (Int32.toInt x2_257 < Int32.toInt x1_256) ∧ (Int32.toInt x1_256 ≤ Int32.toInt (q_188.1 32 14)) ∧ (BL q_255 (Int32.toInt x1_256)) := ha
                  obtain ⟨a_260, a_261, a_262, a_263, a_264, a_265, a_266, a_267, a_268⟩ := ha
                  show dOk (zX3_measure_s32_106b _ (fun q x1 x2 x3 x4 => k_254 (q, x1, x2, x3, x4)) q_255 x1_256 x2_257 x3_258 x4_259) _
                  unfold zX3_measure_s32_106b
                  have hFq_255 : cFr [37, 42, 44] [(32, 17), (32, 18)] q q_255 := hFq_188.t a_261 (by decide) (by decide)
                  subst x2_257
                  subst x3_258
                  have f_269 : 0 ≤ Int32.toInt (q_255.1 32 13) ∧ Int32.toInt (q_255.1 32 13) ≤ 6 := rg_32_13 a_260
                  have f_270 : 0 ≤ Int32.toInt (q_188.1 32 13) ∧ Int32.toInt (q_188.1 32 13) ≤ 6 := rg_32_13 a_191
                  have f_271 : 0 ≤ Int32.toInt (q_8.1 32 13) ∧ Int32.toInt (q_8.1 32 13) ≤ 6 := rg_32_13 a_11
                  have f_272 : 0 ≤ Int32.toInt (q_5.1 32 13) ∧ Int32.toInt (q_5.1 32 13) ≤ 6 := rg_32_13 hTq_5
                  have f_273 : 0 ≤ Int32.toInt (q_1.1 32 13) ∧ Int32.toInt (q_1.1 32 13) ≤ 6 := rg_32_13 hT_3
                  have f_274 : 0 ≤ Int32.toInt (q.1 32 13) ∧ Int32.toInt (q.1 32 13) ≤ 6 := rg_32_13 hT
                  have w_275 : Int32.toInt (q_1.1 32 13) = Int32.toInt (q.1 32 13) := by rw [hF_4.1 32 13 (by decide) (by decide)]
                  have w_276 : Int32.toInt (q_5.1 32 13) = Int32.toInt (q_1.1 32 13) := by rw [eq_5]; rfl
                  have w_277 : Int32.toInt (q_8.1 32 13) = Int32.toInt (q_5.1 32 13) := by rw [a_12.1 32 13 (by decide) (by decide)]
                  have w_278 : Int32.toInt (q_188.1 32 13) = Int32.toInt (q_8.1 32 13) := by rw [a_192.1 32 13 (by decide) (by decide)]
                  have w_279 : Int32.toInt (q_255.1 32 13) = Int32.toInt (q_188.1 32 13) := by rw [a_261.1 32 13 (by decide) (by decide)]
                  refine dOk_lt (A := Int32.toInt (q_255.1 32 13)) (B := Int32.toInt x4_259) rfl rfl (fun c_280 => ?_) (fun c_281 => ?_)
                  · try have t_282 : Int32.toInt (x2_190 + 1) = Int32.toInt x2_190 + 1 := ti_add rfl (by decide) (by omega) (by omega)
                    exact hk_186 (q_255, x1_256, (x2_190 + 1)) (show (TC q_255) ∧ (cFr [42, 44] [] q_8 q_255) ∧ (0 ≤ Int32.toInt (x2_190 + 1)) ∧ (Int32.toInt (x2_190 + 1) ≤ Int32.toInt x1_256) ∧ (Int32.toInt x1_256 ≤ Int32.toInt (q_8.1 32 14)) ∧ (BL q_255 (Int32.toInt x1_256)) from ⟨a_260, ((((cFr.rf : cFr [42, 44] [] q_8 q_8).t a_192 (by decide) (by decide)) : cFr [42, 44] [] q_8 q_188).t a_261 (by decide) (by decide)), by omega, by omega, by omega, bl_c (n := Int32.toInt x1_256) a_268 (show Int32.toInt x1_256 ≤ Int32.toInt x1_256 by omega)⟩) (show (Int32.toInt (q_8.1 32 14) - Int32.toInt (x2_190 + 1)).toNat < (Int32.toInt (q_8.1 32 14) - Int32.toInt x2_190).toNat by omega)
                  · have f_283 : 0 ≤ Int32.toInt (q_255.1 32 14) ∧ Int32.toInt (q_255.1 32 14) ≤ 46080 := rg_32_14 a_260
                    have w_284 : Int32.toInt (q_255.1 32 14) = Int32.toInt (q_188.1 32 14) := by rw [a_261.1 32 14 (by decide) (by decide)]
                    refine dOk_B (ok_X3_turned_s32 q_255 v_251 x4_259 a_260 (ld_fr hp0 hFq_255 rfl) (show 0 ≤ Int32.toInt v_251 by omega) (show Int32.toInt v_251 < Int32.toInt (q_255.1 32 14) by omega)) (fun r_285 q_286 h_287 => ?_)
                    replace h_287 : (q_286 = q_255) ∧ (0 ≤ Int32.toInt r_285) ∧ (Int32.toInt r_285 < Int32.toInt (q_255.1 32 14)) := h_287
                    obtain ⟨i_288, i_289, i_290⟩ := h_287
                    subst q_286
                    have f_291 : 0 ≤ Int32.toInt (q_255.1 32 103) ∧ Int32.toInt (q_255.1 32 103) ≤ 46080 := rg_32_103 a_260
                    have f_292 : 0 ≤ Int32.toInt (q_188.1 32 103) ∧ Int32.toInt (q_188.1 32 103) ≤ 46080 := rg_32_103 a_191
                    have f_293 : 0 ≤ Int32.toInt (q_8.1 32 103) ∧ Int32.toInt (q_8.1 32 103) ≤ 46080 := rg_32_103 a_11
                    have f_294 : 0 ≤ Int32.toInt (q_5.1 32 103) ∧ Int32.toInt (q_5.1 32 103) ≤ 46080 := rg_32_103 hTq_5
                    have f_295 : 0 ≤ Int32.toInt (q_1.1 32 103) ∧ Int32.toInt (q_1.1 32 103) ≤ 46080 := rg_32_103 hT_3
                    have f_296 : 0 ≤ Int32.toInt (q.1 32 103) ∧ Int32.toInt (q.1 32 103) ≤ 46080 := rg_32_103 hT
                    have w_297 : Int32.toInt (q_1.1 32 103) = Int32.toInt (q.1 32 103) := by rw [hF_4.1 32 103 (by decide) (by decide)]
                    have w_298 : Int32.toInt (q_5.1 32 103) = Int32.toInt (q_1.1 32 103) := by rw [eq_5]; rfl
                    have w_299 : Int32.toInt (q_8.1 32 103) = Int32.toInt (q_5.1 32 103) := by rw [a_12.1 32 103 (by decide) (by decide)]
                    have w_300 : Int32.toInt (q_188.1 32 103) = Int32.toInt (q_8.1 32 103) := by rw [a_192.1 32 103 (by decide) (by decide)]
                    have w_301 : Int32.toInt (q_255.1 32 103) = Int32.toInt (q_188.1 32 103) := by rw [a_261.1 32 103 (by decide) (by decide)]
                    refine dOk_G (dg_ok (show 0 ≤ Int32.toInt r_285 by omega) (show Int32.toInt r_285 < ((Int32.toNatClampNeg (q_255.1 32 103) : Nat) : Int) by rw [cl_eq (show 0 ≤ Int32.toInt (q_255.1 32 103) by omega)]; omega)) ?_
                    have n_302 : ((Int32.toNatClampNeg r_285 : Nat) : Int) = Int32.toInt r_285 := cl_eq (by omega)
                    refine dOk_L (fun v_303 ev_303 => ?_)
                    refine dOk_eq (A := Int32.toInt v_303) (B := (-1)) rfl (by decide) (fun c_304z c_304 => ?_) (fun c_305z c_305 => ?_)
                    · refine dOk_B (ok_X3_caseOf_s32 q_255 r_285 x4_259 a_260 (ld_fr hp0 hFq_255 rfl) (show 0 ≤ Int32.toInt r_285 by omega) (show Int32.toInt r_285 < Int32.toInt (q_255.1 32 14) by omega) (show 1 ≤ Int32.toInt x4_259 by omega) (show Int32.toInt x4_259 ≤ Int32.toInt (q_255.1 32 13) by omega)) (fun r_307 q_308 h_309 => ?_)
                      replace h_309 : (q_308 = q_255) ∧ (0 ≤ Int32.toInt r_307) ∧ (Int32.toInt r_307 < 504) := h_309
                      obtain ⟨i_310, i_311, i_312⟩ := h_309
                      subst q_308
                      refine dOk_G (dg_ok (show 0 ≤ Int32.toInt r_307 by omega) (show Int32.toInt r_307 < ((504 : Nat) : Int) by omega)) ?_
                      have n_313 : ((Int32.toNatClampNeg r_307 : Nat) : Int) = Int32.toInt r_307 := cl_eq (by omega)
                      refine dOk_L (fun v_314 ev_314 => ?_)
                      refine dOk_eq (A := Int32.toInt v_314) (B := 0) rfl (by decide) (fun c_315z c_315 => ?_) (fun c_316z c_316 => ?_)
                      · refine dOk_le (A := Int32.toInt (q_255.1 32 14)) (B := Int32.toInt x1_256) rfl rfl (fun c_318 => ?_) (fun c_319 => ?_)
                        · unfold zX3_measure_s32_185
                          try have t_320 : Int32.toInt (x4_259 + 1) = Int32.toInt x4_259 + 1 := ti_add rfl (by decide) (by omega) (by omega)
                          exact hk_253 (q_255, x1_256, x2_190, v_251, (x4_259 + 1)) (show (TC q_255) ∧ (cFr [42, 44] [] q_188 q_255) ∧ (x2_190 = x2_190) ∧ (v_251 = v_251) ∧ (1 ≤ Int32.toInt (x4_259 + 1)) ∧ (Int32.toInt (x4_259 + 1) ≤ 7) ∧ (Int32.toInt x2_190 < Int32.toInt x1_256) ∧ (Int32.toInt x1_256 ≤ Int32.toInt (q_188.1 32 14)) ∧ (BL q_255 (Int32.toInt x1_256)) from ⟨a_260, ((cFr.rf : cFr [42, 44] [] q_188 q_188).t a_261 (by decide) (by decide)), rfl, rfl, by omega, by omega, by omega, by omega, bl_c (n := Int32.toInt x1_256) a_268 (show Int32.toInt x1_256 ≤ Int32.toInt x1_256 by omega)⟩) (show (7 - Int32.toInt (x4_259 + 1)).toNat < (7 - Int32.toInt x4_259).toNat by omega)
                        · refine dOk_G (dg_ok (show 0 ≤ Int32.toInt v_251 by omega) (show Int32.toInt v_251 < ((Int32.toNatClampNeg (q_255.1 32 103) : Nat) : Int) by rw [cl_eq (show 0 ≤ Int32.toInt (q_255.1 32 103) by omega)]; omega)) ?_
                          have n_321 : ((Int32.toNatClampNeg v_251 : Nat) : Int) = Int32.toInt v_251 := cl_eq (by omega)
                          refine dOk_L (fun v_322 ev_322 => ?_)
                          refine dOk_G (dg_ok (show 0 ≤ Int32.toInt r_285 by omega) (show Int32.toInt r_285 < ((Int32.toNatClampNeg (q_255.1 32 103) : Nat) : Int) by rw [cl_eq (show 0 ≤ Int32.toInt (q_255.1 32 103) by omega)]; omega)) ?_
                          refine dOk_L (fun q_323 eq_323 => ?_)
                          have hTq_323 : TC q_323 := by rw [eq_323]; exact sa_42 a_260
                          have hFq_323 : cFr [37, 42, 44] [(32, 17), (32, 18)] q q_323 := by rw [eq_323]; exact hFq_255.i (by decide)
                          have hB_324 : BL q_323 (Int32.toInt x1_256) := by rw [eq_323]; exact bl_o a_268 rfl
                          have f_325 : 0 ≤ Int32.toInt (q_323.1 32 105) ∧ Int32.toInt (q_323.1 32 105) ≤ 46080 := rg_32_105 hTq_323
                          have f_326 : 0 ≤ Int32.toInt (q_255.1 32 105) ∧ Int32.toInt (q_255.1 32 105) ≤ 46080 := rg_32_105 a_260
                          have w_327 : Int32.toInt (q_255.1 32 105) = Int32.toInt (q_188.1 32 105) := by rw [a_261.1 32 105 (by decide) (by decide)]
                          try have w_328 : Int32.toInt (q_323.1 32 105) = Int32.toInt (q_255.1 32 105) := by rw [eq_323, cui_o (by decide)]
                          refine dOk_G (dg_ok (show 0 ≤ Int32.toInt x1_256 by omega) (show Int32.toInt x1_256 < ((Int32.toNatClampNeg (q_323.1 32 105) : Nat) : Int) by rw [cl_eq (show 0 ≤ Int32.toInt (q_323.1 32 105) by omega)]; omega)) ?_
                          have n_329 : ((Int32.toNatClampNeg x1_256 : Nat) : Int) = Int32.toInt x1_256 := cl_eq (by omega)
                          refine dOk_L (fun q_330 eq_330 => ?_)
                          have hTq_330 : TC q_330 := by rw [eq_330]; exact sa_44 hTq_323
                          have hFq_330 : cFr [37, 42, 44] [(32, 17), (32, 18)] q q_330 := by rw [eq_330]; exact hFq_323.i (by decide)
                          have f_331 : 0 ≤ Int32.toInt (q_323.1 32 14) ∧ Int32.toInt (q_323.1 32 14) ≤ 46080 := rg_32_14 hTq_323
                          try have w_332 : Int32.toInt (q_323.1 32 14) = Int32.toInt (q_255.1 32 14) := by rw [eq_323, cui_o (by decide)]
                          have hB_333 : BL q_330 (Int32.toInt x1_256 + 1) := by rw [eq_330]; exact bl_p (n := Int32.toInt x1_256) hB_324 (show ((Int32.toNatClampNeg x1_256 : Nat) : Int) = Int32.toInt x1_256 by omega) (show 0 ≤ Int32.toInt r_285 by omega) (show Int32.toInt r_285 < Int32.toInt (q_323.1 32 14) by omega)
                          unfold zX3_measure_s32_185
                          try have t_334 : Int32.toInt (x1_256 + 1) = Int32.toInt x1_256 + 1 := ti_add rfl (by decide) (by omega) (by omega)
                          try have t_335 : Int32.toInt (x4_259 + 1) = Int32.toInt x4_259 + 1 := ti_add rfl (by decide) (by omega) (by omega)
                          exact hk_253 (q_330, (x1_256 + 1), x2_190, v_251, (x4_259 + 1)) (show (TC q_330) ∧ (cFr [42, 44] [] q_188 q_330) ∧ (x2_190 = x2_190) ∧ (v_251 = v_251) ∧ (1 ≤ Int32.toInt (x4_259 + 1)) ∧ (Int32.toInt (x4_259 + 1) ≤ 7) ∧ (Int32.toInt x2_190 < Int32.toInt (x1_256 + 1)) ∧ (Int32.toInt (x1_256 + 1) ≤ Int32.toInt (q_188.1 32 14)) ∧ (BL q_330 (Int32.toInt (x1_256 + 1))) from ⟨hTq_330, (by rw [eq_330]; exact ((by rw [eq_323]; exact (((cFr.rf : cFr [42, 44] [] q_188 q_188).t a_261 (by decide) (by decide)) : cFr [42, 44] [] q_188 q_255).i (by decide)) : cFr [42, 44] [] q_188 q_323).i (by decide)), rfl, rfl, by omega, by omega, by omega, by omega, bl_c (n := Int32.toInt x1_256 + 1) hB_333 (show Int32.toInt (x1_256 + 1) ≤ Int32.toInt x1_256 + 1 by omega)⟩) (show (7 - Int32.toInt (x4_259 + 1)).toNat < (7 - Int32.toInt x4_259).toNat by omega)
                      · unfold zX3_measure_s32_185
                        try have t_336 : Int32.toInt (x4_259 + 1) = Int32.toInt x4_259 + 1 := ti_add rfl (by decide) (by omega) (by omega)
                        exact hk_253 (q_255, x1_256, x2_190, v_251, (x4_259 + 1)) (show (TC q_255) ∧ (cFr [42, 44] [] q_188 q_255) ∧ (x2_190 = x2_190) ∧ (v_251 = v_251) ∧ (1 ≤ Int32.toInt (x4_259 + 1)) ∧ (Int32.toInt (x4_259 + 1) ≤ 7) ∧ (Int32.toInt x2_190 < Int32.toInt x1_256) ∧ (Int32.toInt x1_256 ≤ Int32.toInt (q_188.1 32 14)) ∧ (BL q_255 (Int32.toInt x1_256)) from ⟨a_260, ((cFr.rf : cFr [42, 44] [] q_188 q_188).t a_261 (by decide) (by decide)), rfl, rfl, by omega, by omega, by omega, by omega, bl_c (n := Int32.toInt x1_256) a_268 (show Int32.toInt x1_256 ≤ Int32.toInt x1_256 by omega)⟩) (show (7 - Int32.toInt (x4_259 + 1)).toNat < (7 - Int32.toInt x4_259).toNat by omega)
                    · unfold zX3_measure_s32_185
                      try have t_337 : Int32.toInt (x4_259 + 1) = Int32.toInt x4_259 + 1 := ti_add rfl (by decide) (by omega) (by omega)
                      exact hk_253 (q_255, x1_256, x2_190, v_251, (x4_259 + 1)) (show (TC q_255) ∧ (cFr [42, 44] [] q_188 q_255) ∧ (x2_190 = x2_190) ∧ (v_251 = v_251) ∧ (1 ≤ Int32.toInt (x4_259 + 1)) ∧ (Int32.toInt (x4_259 + 1) ≤ 7) ∧ (Int32.toInt x2_190 < Int32.toInt x1_256) ∧ (Int32.toInt x1_256 ≤ Int32.toInt (q_188.1 32 14)) ∧ (BL q_255 (Int32.toInt x1_256)) from ⟨a_260, ((cFr.rf : cFr [42, 44] [] q_188 q_188).t a_261 (by decide) (by decide)), rfl, rfl, by omega, by omega, by omega, by omega, bl_c (n := Int32.toInt x1_256) a_268 (show Int32.toInt x1_256 ≤ Int32.toInt x1_256 by omega)⟩) (show (7 - Int32.toInt (x4_259 + 1)).toNat < (7 - Int32.toInt x4_259).toNat by omega)
                · exact (show (TC q_188) ∧ (cFr [42, 44] [] q_188 q_188) ∧ (x2_190 = x2_190) ∧ (v_251 = v_251) ∧ (1 ≤ (1 : Int)) ∧ ((1 : Int) ≤ 7) ∧ (Int32.toInt x2_190 < Int32.toInt x1_189) ∧ (Int32.toInt x1_189 ≤ Int32.toInt (q_188.1 32 14)) ∧ (BL q_188 (Int32.toInt x1_189)) from ⟨a_191, cFr.rf, rfl, rfl, by omega, by omega, by omega, by omega, bl_c (n := Int32.toInt x1_189) a_196 (show Int32.toInt x1_189 ≤ Int32.toInt x1_189 by omega)⟩)
                · show (7 - (1 : Int)).toNat < 1000000000000
                  omega
          · exact (show (TC q_8) ∧ (cFr [42, 44] [] q_8 q_8) ∧ (0 ≤ (0 : Int)) ∧ ((0 : Int) ≤ Int32.toInt x1_9) ∧ (Int32.toInt x1_9 ≤ Int32.toInt (q_8.1 32 14)) ∧ (BL q_8 (Int32.toInt x1_9)) from ⟨a_11, cFr.rf, by omega, by omega, by omega, bl_c (n := Int32.toInt x1_9) a_16 (show Int32.toInt x1_9 ≤ Int32.toInt x1_9 by omega)⟩)
          · show (Int32.toInt (q_8.1 32 14) - (0 : Int)).toNat < 1000000000000
            omega
        · have f_338 : 0 ≤ Int32.toInt (q_8.1 32 103) ∧ Int32.toInt (q_8.1 32 103) ≤ 46080 := rg_32_103 a_11
          have f_339 : 0 ≤ Int32.toInt (q_5.1 32 103) ∧ Int32.toInt (q_5.1 32 103) ≤ 46080 := rg_32_103 hTq_5
          have f_340 : 0 ≤ Int32.toInt (q_1.1 32 103) ∧ Int32.toInt (q_1.1 32 103) ≤ 46080 := rg_32_103 hT_3
          have f_341 : 0 ≤ Int32.toInt (q.1 32 103) ∧ Int32.toInt (q.1 32 103) ≤ 46080 := rg_32_103 hT
          have w_342 : Int32.toInt (q_1.1 32 103) = Int32.toInt (q.1 32 103) := by rw [hF_4.1 32 103 (by decide) (by decide)]
          have w_343 : Int32.toInt (q_5.1 32 103) = Int32.toInt (q_1.1 32 103) := by rw [eq_5]; rfl
          have w_344 : Int32.toInt (q_8.1 32 103) = Int32.toInt (q_5.1 32 103) := by rw [a_12.1 32 103 (by decide) (by decide)]
          refine dOk_G (dg_ok (show 0 ≤ Int32.toInt x2_10 by omega) (show Int32.toInt x2_10 < ((Int32.toNatClampNeg (q_8.1 32 103) : Nat) : Int) by rw [cl_eq (show 0 ≤ Int32.toInt (q_8.1 32 103) by omega)]; omega)) ?_
          have n_345 : ((Int32.toNatClampNeg x2_10 : Nat) : Int) = Int32.toInt x2_10 := cl_eq (by omega)
          refine dOk_L (fun q_346 eq_346 => ?_)
          have hTq_346 : TC q_346 := by rw [eq_346]; exact sa_42 a_11
          have hFq_346 : cFr [37, 42, 44] [(32, 17), (32, 18)] q q_346 := by rw [eq_346]; exact hFq_8.i (by decide)
          have hB_347 : BL q_346 (Int32.toInt x1_9) := by rw [eq_346]; exact bl_o a_16 rfl
          have f_348 : 0 ≤ Int32.toInt (q_346.1 32 105) ∧ Int32.toInt (q_346.1 32 105) ≤ 46080 := rg_32_105 hTq_346
          have f_349 : 0 ≤ Int32.toInt (q_8.1 32 105) ∧ Int32.toInt (q_8.1 32 105) ≤ 46080 := rg_32_105 a_11
          have f_350 : 0 ≤ Int32.toInt (q_5.1 32 105) ∧ Int32.toInt (q_5.1 32 105) ≤ 46080 := rg_32_105 hTq_5
          have f_351 : 0 ≤ Int32.toInt (q_1.1 32 105) ∧ Int32.toInt (q_1.1 32 105) ≤ 46080 := rg_32_105 hT_3
          have f_352 : 0 ≤ Int32.toInt (q.1 32 105) ∧ Int32.toInt (q.1 32 105) ≤ 46080 := rg_32_105 hT
          have w_353 : Int32.toInt (q_1.1 32 105) = Int32.toInt (q.1 32 105) := by rw [hF_4.1 32 105 (by decide) (by decide)]
          have w_354 : Int32.toInt (q_5.1 32 105) = Int32.toInt (q_1.1 32 105) := by rw [eq_5]; rfl
          have w_355 : Int32.toInt (q_8.1 32 105) = Int32.toInt (q_5.1 32 105) := by rw [a_12.1 32 105 (by decide) (by decide)]
          try have w_356 : Int32.toInt (q_346.1 32 105) = Int32.toInt (q_8.1 32 105) := by rw [eq_346, cui_o (by decide)]
          refine dOk_G (dg_ok (show 0 ≤ Int32.toInt x1_9 by omega) (show Int32.toInt x1_9 < ((Int32.toNatClampNeg (q_346.1 32 105) : Nat) : Int) by rw [cl_eq (show 0 ≤ Int32.toInt (q_346.1 32 105) by omega)]; omega)) ?_
          have n_357 : ((Int32.toNatClampNeg x1_9 : Nat) : Int) = Int32.toInt x1_9 := cl_eq (by omega)
          refine dOk_L (fun q_358 eq_358 => ?_)
          have hTq_358 : TC q_358 := by rw [eq_358]; exact sa_44 hTq_346
          have hFq_358 : cFr [37, 42, 44] [(32, 17), (32, 18)] q q_358 := by rw [eq_358]; exact hFq_346.i (by decide)
          have f_359 : 0 ≤ Int32.toInt (q_346.1 32 14) ∧ Int32.toInt (q_346.1 32 14) ≤ 46080 := rg_32_14 hTq_346
          try have w_360 : Int32.toInt (q_346.1 32 14) = Int32.toInt (q_8.1 32 14) := by rw [eq_346, cui_o (by decide)]
          have hB_361 : BL q_358 (Int32.toInt x1_9 + 1) := by rw [eq_358]; exact bl_p (n := Int32.toInt x1_9) hB_347 (show ((Int32.toNatClampNeg x1_9 : Nat) : Int) = Int32.toInt x1_9 by omega) (show 0 ≤ Int32.toInt x2_10 by omega) (show Int32.toInt x2_10 < Int32.toInt (q_346.1 32 14) by omega)
          try have t_362 : Int32.toInt (x1_9 + 1) = Int32.toInt x1_9 + 1 := ti_add rfl (by decide) (by omega) (by omega)
          try have t_363 : Int32.toInt (x2_10 + 1) = Int32.toInt x2_10 + 1 := ti_add rfl (by decide) (by omega) (by omega)
          exact hk_6 (q_358, (x1_9 + 1), (x2_10 + 1)) (show (TC q_358) ∧ (cFr [42, 44] [] q_5 q_358) ∧ (0 ≤ Int32.toInt (x1_9 + 1)) ∧ (Int32.toInt (x1_9 + 1) = Int32.toInt (x2_10 + 1)) ∧ (Int32.toInt (x1_9 + 1) ≤ Int32.toInt (q_5.1 32 14)) ∧ (BL q_358 (Int32.toInt (x1_9 + 1))) from ⟨hTq_358, (by rw [eq_358]; exact ((by rw [eq_346]; exact (((cFr.rf : cFr [42, 44] [] q_5 q_5).t a_12 (by decide) (by decide)) : cFr [42, 44] [] q_5 q_8).i (by decide)) : cFr [42, 44] [] q_5 q_346).i (by decide)), by omega, by omega, by omega, bl_c (n := Int32.toInt x1_9 + 1) hB_361 (show Int32.toInt (x1_9 + 1) ≤ Int32.toInt x1_9 + 1 by omega)⟩) (show (Int32.toInt (q_5.1 32 14) - Int32.toInt (x2_10 + 1)).toNat < (Int32.toInt (q_5.1 32 14) - Int32.toInt x2_10).toNat by omega)
    · have f_364 : 0 ≤ Int32.toInt (q_5.1 32 14) ∧ Int32.toInt (q_5.1 32 14) ≤ 46080 := rg_32_14 hTq_5
      have f_365 : 0 ≤ Int32.toInt (q_1.1 32 14) ∧ Int32.toInt (q_1.1 32 14) ≤ 46080 := rg_32_14 hT_3
      have f_366 : 0 ≤ Int32.toInt (q.1 32 14) ∧ Int32.toInt (q.1 32 14) ≤ 46080 := rg_32_14 hT
      have w_367 : Int32.toInt (q_1.1 32 14) = Int32.toInt (q.1 32 14) := by rw [hF_4.1 32 14 (by decide) (by decide)]
      have w_368 : Int32.toInt (q_5.1 32 14) = Int32.toInt (q_1.1 32 14) := by rw [eq_5]; rfl
      exact (show (TC q_5) ∧ (cFr [42, 44] [] q_5 q_5) ∧ (0 ≤ (0 : Int)) ∧ ((0 : Int) = (0 : Int)) ∧ ((0 : Int) ≤ Int32.toInt (q_5.1 32 14)) ∧ (BL q_5 ((0 : Int))) from ⟨hTq_5, cFr.rf, by omega, by omega, by omega, bl_c (n := 0) bl_0 (show (0 : Int) ≤ 0 by omega)⟩)
    · have f_369 : 0 ≤ Int32.toInt (q_5.1 32 14) ∧ Int32.toInt (q_5.1 32 14) ≤ 46080 := rg_32_14 hTq_5
      have f_370 : 0 ≤ Int32.toInt (q_1.1 32 14) ∧ Int32.toInt (q_1.1 32 14) ≤ 46080 := rg_32_14 hT_3
      have f_371 : 0 ≤ Int32.toInt (q.1 32 14) ∧ Int32.toInt (q.1 32 14) ≤ 46080 := rg_32_14 hT
      have w_372 : Int32.toInt (q_1.1 32 14) = Int32.toInt (q.1 32 14) := by rw [hF_4.1 32 14 (by decide) (by decide)]
      have w_373 : Int32.toInt (q_5.1 32 14) = Int32.toInt (q_1.1 32 14) := by rw [eq_5]; rfl
      show (Int32.toInt (q_5.1 32 14) - (0 : Int)).toNat < 1000000000000
      omega
  have f_374 : 0 ≤ Int32.toInt (q.1 32 13) ∧ Int32.toInt (q.1 32 13) ≤ 6 := rg_32_13 hT
  refine dOk_eq (A := Int32.toInt (q.1 32 17)) (B := Int32.toInt (q.1 32 13)) rfl rfl (fun c_375z c_375 => ?_) (fun c_376z c_376 => ?_)
  · refine dOk_eq (A := Int32.toInt (q.1 32 18)) (B := Int32.toInt (q.1 32 16)) rfl rfl (fun c_378z c_378 => ?_) (fun c_379z c_379 => ?_)
    · refine dOk_B (ok_X3_sameBars_s32 q hT) (fun r_381 q_382 h_383 => ?_)
      replace h_383 : (q_382 = q) ∧ ((Int32.toInt r_381 = 0 ∨ Int32.toInt r_381 = 1)) := h_383
      obtain ⟨i_384, i_385⟩ := h_383
      subst q_382
      refine dOk_eq (A := Int32.toInt r_381) (B := 0) rfl (by decide) (fun c_386z c_386 => ?_) (fun c_387z c_387 => ?_)
      · exact hn_2 q hT cFr.rf 
      · exact dOk_some (show (TC q) ∧ (cFr [37, 42, 44] [(32, 17), (32, 18)] q q) from ⟨hT, (cFr.rf (q := q))⟩)
    · exact hn_2 q hT cFr.rf 
  · exact hn_2 q hT cFr.rf 
