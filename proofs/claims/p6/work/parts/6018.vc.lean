set_option maxHeartbeats 4000000 in
set_option maxRecDepth 100000 in
theorem ok_X9_count_s0 (q : dK) (p1 : Int32) (hT : TC q) : dOk (zX9_count_s0 q p1) (fun (o : Int32 × dK) => (o.2 = q)) := by
  unfold zX9_count_s0
  refine dOk_eq (A := Int32.toInt p1) (B := 0) rfl (by decide) (fun c_1z c_1 => ?_) (fun c_2z c_2 => ?_)
  · have f_4 : 0 ≤ Int32.toInt (q.1 2 2) ∧ Int32.toInt (q.1 2 2) ≤ 6 := rg_2_2 hT
    exact dOk_some (show (q = q) from rfl)
  · refine dOk_eq (A := Int32.toInt p1) (B := 1) rfl (by decide) (fun c_5z c_5 => ?_) (fun c_6z c_6 => ?_)
    · refine dOk_B (ok_X8_onHeads_s2 q hT) (fun r_8 q_9 h_10 => ?_)
      replace h_10 : (q_9 = q) := h_10
      have i_11 := h_10
      subst q_9
      exact dOk_some (show (q = q) from rfl)
    · refine dOk_eq (A := Int32.toInt p1) (B := 2) rfl (by decide) (fun c_12z c_12 => ?_) (fun c_13z c_13 => ?_)
      · have f_15 : 0 ≤ Int32.toInt (q.1 2 3) ∧ Int32.toInt (q.1 2 3) ≤ 16383 := rg_2_3 hT
        exact dOk_some (show (q = q) from rfl)
      · refine dOk_eq (A := Int32.toInt p1) (B := 3) rfl (by decide) (fun c_16z c_16 => ?_) (fun c_17z c_17 => ?_)
        · have f_19 : 0 ≤ Int32.toInt (q.1 1 6) ∧ Int32.toInt (q.1 1 6) ≤ 6 := rg_1_6 hT
          exact dOk_some (show (q = q) from rfl)
        · refine dOk_eq (A := Int32.toInt p1) (B := 4) rfl (by decide) (fun c_20z c_20 => ?_) (fun c_21z c_21 => ?_)
          · have f_23 : 0 ≤ Int32.toInt (q.1 1 8) ∧ Int32.toInt (q.1 1 8) ≤ 6 := rg_1_8 hT
            exact dOk_some (show (q = q) from rfl)
          · refine dOk_eq (A := Int32.toInt p1) (B := 5) rfl (by decide) (fun c_24z c_24 => ?_) (fun c_25z c_25 => ?_)
            · have f_27 : 0 ≤ Int32.toInt (q.1 10 2) ∧ Int32.toInt (q.1 10 2) ≤ 16 := rg_10_2 hT
              exact dOk_some (show (q = q) from rfl)
            · refine dOk_eq (A := Int32.toInt p1) (B := 6) rfl (by decide) (fun c_28z c_28 => ?_) (fun c_29z c_29 => ?_)
              · have f_31 : 0 ≤ Int32.toInt (q.1 0 12) ∧ Int32.toInt (q.1 0 12) ≤ 400 := rg_0_12 hT
                exact dOk_some (show (q = q) from rfl)
              · refine dOk_eq (A := Int32.toInt p1) (B := 7) rfl (by decide) (fun c_32z c_32 => ?_) (fun c_33z c_33 => ?_)
                · exact dOk_some (show (q = q) from rfl)
                · refine dOk_eq (A := Int32.toInt p1) (B := 8) rfl (by decide) (fun c_35z c_35 => ?_) (fun c_36z c_36 => ?_)
                  · exact dOk_some (show (q = q) from rfl)
                  · refine dOk_eq (A := Int32.toInt p1) (B := 9) rfl (by decide) (fun c_38z c_38 => ?_) (fun c_39z c_39 => ?_)
                    · exact dOk_some (show (q = q) from rfl)
                    · refine dOk_eq (A := Int32.toInt p1) (B := 10) rfl (by decide) (fun c_41z c_41 => ?_) (fun c_42z c_42 => ?_)
                      · exact dOk_some (show (q = q) from rfl)
                      · refine dOk_eq (A := Int32.toInt p1) (B := 11) rfl (by decide) (fun c_44z c_44 => ?_) (fun c_45z c_45 => ?_)
                        · exact dOk_some (show (q = q) from rfl)
                        · refine dOk_eq (A := Int32.toInt p1) (B := 12) rfl (by decide) (fun c_47z c_47 => ?_) (fun c_48z c_48 => ?_)
                          · exact dOk_some (show (q = q) from rfl)
                          · refine dOk_eq (A := Int32.toInt p1) (B := 13) rfl (by decide) (fun c_50z c_50 => ?_) (fun c_51z c_51 => ?_)
                            · try have t_53 : Int32.toInt (p1 - 13) = Int32.toInt p1 - 13 := ti_sub rfl (by decide) (by omega) (by omega)
                              refine dOk_B (ok_X6_term_s1 q (p1 - 13) hT) (fun r_54 q_55 h_56 => ?_)
                              replace h_56 : (q_55 = q) := h_56
                              have i_57 := h_56
                              subst q_55
                              exact dOk_some (show (q = q) from rfl)
                            · refine dOk_eq (A := Int32.toInt p1) (B := 14) rfl (by decide) (fun c_58z c_58 => ?_) (fun c_59z c_59 => ?_)
                              · try have t_61 : Int32.toInt (p1 - 13) = Int32.toInt p1 - 13 := ti_sub rfl (by decide) (by omega) (by omega)
                                refine dOk_B (ok_X6_term_s1 q (p1 - 13) hT) (fun r_62 q_63 h_64 => ?_)
                                replace h_64 : (q_63 = q) := h_64
                                have i_65 := h_64
                                subst q_63
                                exact dOk_some (show (q = q) from rfl)
                              · refine dOk_eq (A := Int32.toInt p1) (B := 15) rfl (by decide) (fun c_66z c_66 => ?_) (fun c_67z c_67 => ?_)
                                · try have t_69 : Int32.toInt (p1 - 13) = Int32.toInt p1 - 13 := ti_sub rfl (by decide) (by omega) (by omega)
                                  refine dOk_B (ok_X6_term_s1 q (p1 - 13) hT) (fun r_70 q_71 h_72 => ?_)
                                  replace h_72 : (q_71 = q) := h_72
                                  have i_73 := h_72
                                  subst q_71
                                  exact dOk_some (show (q = q) from rfl)
                                · refine dOk_eq (A := Int32.toInt p1) (B := 16) rfl (by decide) (fun c_74z c_74 => ?_) (fun c_75z c_75 => ?_)
                                  · try have t_77 : Int32.toInt (p1 - 13) = Int32.toInt p1 - 13 := ti_sub rfl (by decide) (by omega) (by omega)
                                    refine dOk_B (ok_X6_term_s1 q (p1 - 13) hT) (fun r_78 q_79 h_80 => ?_)
                                    replace h_80 : (q_79 = q) := h_80
                                    have i_81 := h_80
                                    subst q_79
                                    exact dOk_some (show (q = q) from rfl)
                                  · refine dOk_eq (A := Int32.toInt p1) (B := 17) rfl (by decide) (fun c_82z c_82 => ?_) (fun c_83z c_83 => ?_)
                                    · have f_85 : 0 ≤ Int32.toInt (q.1 2 2) ∧ Int32.toInt (q.1 2 2) ≤ 6 := rg_2_2 hT
                                      try have t_86 := ti_shlP (s := q.1 2 2) (by omega) (by omega)
                                      try have t_87 := ti_shl5 (x := 1) (s := q.1 2 2) (by decide) (by decide) (by omega) (by omega)
                                      try have t_88 := ti_shl6 (x := 1) (s := q.1 2 2) (by decide) (by decide) (by omega) (by omega)
                                      try have t_89 : Int32.toInt (1 <<< ((q.1 2 2 : Int32) &&& 31) - 1) = Int32.toInt (1 <<< ((q.1 2 2 : Int32) &&& 31)) - 1 := ti_sub rfl (by decide) (by omega) (by omega)
                                      refine dOk_B (ok_X8_rises_s2 q (1 <<< ((q.1 2 2 : Int32) &&& 31) - 1) (q.1 1 3) hT) (fun r_90 q_91 h_92 => ?_)
                                      replace h_92 : (q_91 = q) ∧ ((Int32.toInt r_90 = 0 ∨ Int32.toInt r_90 = 1)) := h_92
                                      obtain ⟨i_93, i_94⟩ := h_92
                                      subst q_91
                                      refine dOk_V (ok_X9_bit r_90) (fun r_95 h_96 => ?_)
                                      replace h_96 : ((Int32.toInt r_95 = 0 ∨ Int32.toInt r_95 = 1)) := h_96
                                      have i_97 := h_96
                                      exact dOk_some (show (q = q) from rfl)
                                    · exact dOk_some (show (q = q) from rfl)

set_option maxHeartbeats 4000000 in
set_option maxRecDepth 100000 in
theorem ok_X9_drawn_s0 (q : dK) (p1 : Int32) (p2 : Int32) (hT : TC q) : dOk (zX9_drawn_s0 q p1 p2) (fun (o : Int32 × dK) => (o.2 = q)) := by
  unfold zX9_drawn_s0
  refine dOk_B (ok_X8_tell_s15 q p1 p2 hT) (fun r_1 q_2 h_3 => ?_)
  replace h_3 : (q_2 = q) ∧ (-1 ≤ Int32.toInt r_1 ∧ Int32.toInt r_1 ≤ 7) := h_3
  obtain ⟨i_4, i_5⟩ := h_3
  subst q_2
  exact dOk_some (show (q = q) from rfl)

set_option maxHeartbeats 4000000 in
set_option maxRecDepth 100000 in
theorem ok_X2_join_s18 (q : dK) (p1 : Int32) (p2 : Int64) (p3 : Int64) (hT : TC q) : dOk (zX2_join_s18 q p1 p2 p3) (fun (o : Int32 × dK) => (TC o.2) ∧ (cFr [] [(18, 1)] q o.2)) := by
  unfold zX2_join_s18
  refine dOk_eq (A := Int32.toInt p1) (B := 2) rfl (by decide) (fun c_1z c_1 => ?_) (fun c_2z c_2 => ?_)
  · unfold zX2_join_s18_163
    refine dOk_lt rfl rfl (fun c9 => ?_) (fun c9 => ?_)
    · unfold zX2_join_s18_181
      refine dOk_L (fun q_4 eq_4 => ?_)
      have hTq_4 : TC q_4 := by rw [eq_4]; exact st_18_1 hT (show (0 : Int) ≤ (1 : Int) by omega) (show (1 : Int) ≤ (1 : Int) by omega)
      have hFq_4 : cFr [] [(18, 1)] q q_4 := by rw [eq_4]; exact (cFr.rf (q := q)).f (by decide)
      exact dOk_some (show (TC q_4) ∧ (cFr [] [(18, 1)] q q_4) from ⟨hTq_4, hFq_4⟩)
    · refine dOk_le rfl rfl (fun c9 => ?_) (fun c9 => ?_)
      · exact dOk_some (show (TC q) ∧ (cFr [] [(18, 1)] q q) from ⟨hT, (cFr.rf (q := q))⟩)
      · unfold zX2_join_s18_181
        refine dOk_L (fun q_5 eq_5 => ?_)
        have hTq_5 : TC q_5 := by rw [eq_5]; exact st_18_1 hT (show (0 : Int) ≤ (1 : Int) by omega) (show (1 : Int) ≤ (1 : Int) by omega)
        have hFq_5 : cFr [] [(18, 1)] q q_5 := by rw [eq_5]; exact (cFr.rf (q := q)).f (by decide)
        exact dOk_some (show (TC q_5) ∧ (cFr [] [(18, 1)] q q_5) from ⟨hTq_5, hFq_5⟩)
  · refine dOk_eq (A := Int32.toInt p1) (B := 3) rfl (by decide) (fun c_6z c_6 => ?_) (fun c_7z c_7 => ?_)
    · unfold zX2_join_s18_163
      refine dOk_lt rfl rfl (fun c9 => ?_) (fun c9 => ?_)
      · unfold zX2_join_s18_181
        refine dOk_L (fun q_9 eq_9 => ?_)
        have hTq_9 : TC q_9 := by rw [eq_9]; exact st_18_1 hT (show (0 : Int) ≤ (1 : Int) by omega) (show (1 : Int) ≤ (1 : Int) by omega)
        have hFq_9 : cFr [] [(18, 1)] q q_9 := by rw [eq_9]; exact (cFr.rf (q := q)).f (by decide)
        exact dOk_some (show (TC q_9) ∧ (cFr [] [(18, 1)] q q_9) from ⟨hTq_9, hFq_9⟩)
      · refine dOk_le rfl rfl (fun c9 => ?_) (fun c9 => ?_)
        · exact dOk_some (show (TC q) ∧ (cFr [] [(18, 1)] q q) from ⟨hT, (cFr.rf (q := q))⟩)
        · unfold zX2_join_s18_181
          refine dOk_L (fun q_10 eq_10 => ?_)
          have hTq_10 : TC q_10 := by rw [eq_10]; exact st_18_1 hT (show (0 : Int) ≤ (1 : Int) by omega) (show (1 : Int) ≤ (1 : Int) by omega)
          have hFq_10 : cFr [] [(18, 1)] q q_10 := by rw [eq_10]; exact (cFr.rf (q := q)).f (by decide)
          exact dOk_some (show (TC q_10) ∧ (cFr [] [(18, 1)] q q_10) from ⟨hTq_10, hFq_10⟩)
    · refine dOk_eq (A := Int32.toInt p1) (B := 4) rfl (by decide) (fun c_11z c_11 => ?_) (fun c_12z c_12 => ?_)
      · unfold zX2_join_s18_163
        refine dOk_lt rfl rfl (fun c9 => ?_) (fun c9 => ?_)
        · unfold zX2_join_s18_181
          refine dOk_L (fun q_14 eq_14 => ?_)
          have hTq_14 : TC q_14 := by rw [eq_14]; exact st_18_1 hT (show (0 : Int) ≤ (1 : Int) by omega) (show (1 : Int) ≤ (1 : Int) by omega)
          have hFq_14 : cFr [] [(18, 1)] q q_14 := by rw [eq_14]; exact (cFr.rf (q := q)).f (by decide)
          exact dOk_some (show (TC q_14) ∧ (cFr [] [(18, 1)] q q_14) from ⟨hTq_14, hFq_14⟩)
        · refine dOk_le rfl rfl (fun c9 => ?_) (fun c9 => ?_)
          · exact dOk_some (show (TC q) ∧ (cFr [] [(18, 1)] q q) from ⟨hT, (cFr.rf (q := q))⟩)
          · unfold zX2_join_s18_181
            refine dOk_L (fun q_15 eq_15 => ?_)
            have hTq_15 : TC q_15 := by rw [eq_15]; exact st_18_1 hT (show (0 : Int) ≤ (1 : Int) by omega) (show (1 : Int) ≤ (1 : Int) by omega)
            have hFq_15 : cFr [] [(18, 1)] q q_15 := by rw [eq_15]; exact (cFr.rf (q := q)).f (by decide)
            exact dOk_some (show (TC q_15) ∧ (cFr [] [(18, 1)] q q_15) from ⟨hTq_15, hFq_15⟩)
      · refine dOk_eq (A := Int32.toInt p1) (B := 5) rfl (by decide) (fun c_16z c_16 => ?_) (fun c_17z c_17 => ?_)
        · refine dOk_eq rfl rfl (fun _ c9 => ?_) (fun _ c9 => ?_)
          · refine dOk_L (fun q_19 eq_19 => ?_)
            have hTq_19 : TC q_19 := by rw [eq_19]; exact st_18_1 hT (show (0 : Int) ≤ (1 : Int) by omega) (show (1 : Int) ≤ (1 : Int) by omega)
            have hFq_19 : cFr [] [(18, 1)] q q_19 := by rw [eq_19]; exact (cFr.rf (q := q)).f (by decide)
            unfold zX2_join_s18_163
            refine dOk_lt rfl rfl (fun c9 => ?_) (fun c9 => ?_)
            · unfold zX2_join_s18_181
              refine dOk_L (fun q_20 eq_20 => ?_)
              have hTq_20 : TC q_20 := by rw [eq_20]; exact st_18_1 hTq_19 (show (0 : Int) ≤ (1 : Int) by omega) (show (1 : Int) ≤ (1 : Int) by omega)
              have hFq_20 : cFr [] [(18, 1)] q q_20 := by rw [eq_20]; exact hFq_19.f (by decide)
              exact dOk_some (show (TC q_20) ∧ (cFr [] [(18, 1)] q q_20) from ⟨hTq_20, hFq_20⟩)
            · refine dOk_le rfl rfl (fun c9 => ?_) (fun c9 => ?_)
              · exact dOk_some (show (TC q_19) ∧ (cFr [] [(18, 1)] q q_19) from ⟨hTq_19, hFq_19⟩)
              · unfold zX2_join_s18_181
                refine dOk_L (fun q_21 eq_21 => ?_)
                have hTq_21 : TC q_21 := by rw [eq_21]; exact st_18_1 hTq_19 (show (0 : Int) ≤ (1 : Int) by omega) (show (1 : Int) ≤ (1 : Int) by omega)
                have hFq_21 : cFr [] [(18, 1)] q q_21 := by rw [eq_21]; exact hFq_19.f (by decide)
                exact dOk_some (show (TC q_21) ∧ (cFr [] [(18, 1)] q q_21) from ⟨hTq_21, hFq_21⟩)
          · refine dOk_eq (A := Int32.toInt p1) (B := 5) rfl (by decide) (fun c_22z c_22 => ?_) (fun c_23z c_23 => ?_)
            · refine dOk_G (dnl_ok (by (first | decide | (intro z9; exact c9 (by rw [z9]; decide))))) ?_
              unfold zX2_join_s18_161
              unfold zX2_join_s18_163
              refine dOk_lt rfl rfl (fun c9 => ?_) (fun c9 => ?_)
              · unfold zX2_join_s18_181
                refine dOk_L (fun q_25 eq_25 => ?_)
                have hTq_25 : TC q_25 := by rw [eq_25]; exact st_18_1 hT (show (0 : Int) ≤ (1 : Int) by omega) (show (1 : Int) ≤ (1 : Int) by omega)
                have hFq_25 : cFr [] [(18, 1)] q q_25 := by rw [eq_25]; exact (cFr.rf (q := q)).f (by decide)
                exact dOk_some (show (TC q_25) ∧ (cFr [] [(18, 1)] q q_25) from ⟨hTq_25, hFq_25⟩)
              · refine dOk_le rfl rfl (fun c9 => ?_) (fun c9 => ?_)
                · exact dOk_some (show (TC q) ∧ (cFr [] [(18, 1)] q q) from ⟨hT, (cFr.rf (q := q))⟩)
                · unfold zX2_join_s18_181
                  refine dOk_L (fun q_26 eq_26 => ?_)
                  have hTq_26 : TC q_26 := by rw [eq_26]; exact st_18_1 hT (show (0 : Int) ≤ (1 : Int) by omega) (show (1 : Int) ≤ (1 : Int) by omega)
                  have hFq_26 : cFr [] [(18, 1)] q q_26 := by rw [eq_26]; exact (cFr.rf (q := q)).f (by decide)
                  exact dOk_some (show (TC q_26) ∧ (cFr [] [(18, 1)] q q_26) from ⟨hTq_26, hFq_26⟩)
            · refine dOk_G (dnl_ok (by (first | decide | (intro z9; exact c9 (by rw [z9]; decide))))) ?_
              unfold zX2_join_s18_161
              unfold zX2_join_s18_163
              refine dOk_lt rfl rfl (fun c9 => ?_) (fun c9 => ?_)
              · unfold zX2_join_s18_181
                refine dOk_L (fun q_27 eq_27 => ?_)
                have hTq_27 : TC q_27 := by rw [eq_27]; exact st_18_1 hT (show (0 : Int) ≤ (1 : Int) by omega) (show (1 : Int) ≤ (1 : Int) by omega)
                have hFq_27 : cFr [] [(18, 1)] q q_27 := by rw [eq_27]; exact (cFr.rf (q := q)).f (by decide)
                exact dOk_some (show (TC q_27) ∧ (cFr [] [(18, 1)] q q_27) from ⟨hTq_27, hFq_27⟩)
              · refine dOk_le rfl rfl (fun c9 => ?_) (fun c9 => ?_)
                · exact dOk_some (show (TC q) ∧ (cFr [] [(18, 1)] q q) from ⟨hT, (cFr.rf (q := q))⟩)
                · unfold zX2_join_s18_181
                  refine dOk_L (fun q_28 eq_28 => ?_)
                  have hTq_28 : TC q_28 := by rw [eq_28]; exact st_18_1 hT (show (0 : Int) ≤ (1 : Int) by omega) (show (1 : Int) ≤ (1 : Int) by omega)
                  have hFq_28 : cFr [] [(18, 1)] q q_28 := by rw [eq_28]; exact (cFr.rf (q := q)).f (by decide)
                  exact dOk_some (show (TC q_28) ∧ (cFr [] [(18, 1)] q q_28) from ⟨hTq_28, hFq_28⟩)
        · refine dOk_eq (A := Int32.toInt p1) (B := 6) rfl (by decide) (fun c_29z c_29 => ?_) (fun c_30z c_30 => ?_)
          · refine dOk_eq rfl rfl (fun _ c9 => ?_) (fun _ c9 => ?_)
            · refine dOk_L (fun q_32 eq_32 => ?_)
              have hTq_32 : TC q_32 := by rw [eq_32]; exact st_18_1 hT (show (0 : Int) ≤ (1 : Int) by omega) (show (1 : Int) ≤ (1 : Int) by omega)
              have hFq_32 : cFr [] [(18, 1)] q q_32 := by rw [eq_32]; exact (cFr.rf (q := q)).f (by decide)
              unfold zX2_join_s18_163
              refine dOk_lt rfl rfl (fun c9 => ?_) (fun c9 => ?_)
              · unfold zX2_join_s18_181
                refine dOk_L (fun q_33 eq_33 => ?_)
                have hTq_33 : TC q_33 := by rw [eq_33]; exact st_18_1 hTq_32 (show (0 : Int) ≤ (1 : Int) by omega) (show (1 : Int) ≤ (1 : Int) by omega)
                have hFq_33 : cFr [] [(18, 1)] q q_33 := by rw [eq_33]; exact hFq_32.f (by decide)
                exact dOk_some (show (TC q_33) ∧ (cFr [] [(18, 1)] q q_33) from ⟨hTq_33, hFq_33⟩)
              · refine dOk_le rfl rfl (fun c9 => ?_) (fun c9 => ?_)
                · exact dOk_some (show (TC q_32) ∧ (cFr [] [(18, 1)] q q_32) from ⟨hTq_32, hFq_32⟩)
                · unfold zX2_join_s18_181
                  refine dOk_L (fun q_34 eq_34 => ?_)
                  have hTq_34 : TC q_34 := by rw [eq_34]; exact st_18_1 hTq_32 (show (0 : Int) ≤ (1 : Int) by omega) (show (1 : Int) ≤ (1 : Int) by omega)
                  have hFq_34 : cFr [] [(18, 1)] q q_34 := by rw [eq_34]; exact hFq_32.f (by decide)
                  exact dOk_some (show (TC q_34) ∧ (cFr [] [(18, 1)] q q_34) from ⟨hTq_34, hFq_34⟩)
            · refine dOk_eq (A := Int32.toInt p1) (B := 5) rfl (by decide) (fun c_35z c_35 => ?_) (fun c_36z c_36 => ?_)
              · refine dOk_G (dnl_ok (by (first | decide | (intro z9; exact c9 (by rw [z9]; decide))))) ?_
                unfold zX2_join_s18_161
                unfold zX2_join_s18_163
                refine dOk_lt rfl rfl (fun c9 => ?_) (fun c9 => ?_)
                · unfold zX2_join_s18_181
                  refine dOk_L (fun q_38 eq_38 => ?_)
                  have hTq_38 : TC q_38 := by rw [eq_38]; exact st_18_1 hT (show (0 : Int) ≤ (1 : Int) by omega) (show (1 : Int) ≤ (1 : Int) by omega)
                  have hFq_38 : cFr [] [(18, 1)] q q_38 := by rw [eq_38]; exact (cFr.rf (q := q)).f (by decide)
                  exact dOk_some (show (TC q_38) ∧ (cFr [] [(18, 1)] q q_38) from ⟨hTq_38, hFq_38⟩)
                · refine dOk_le rfl rfl (fun c9 => ?_) (fun c9 => ?_)
                  · exact dOk_some (show (TC q) ∧ (cFr [] [(18, 1)] q q) from ⟨hT, (cFr.rf (q := q))⟩)
                  · unfold zX2_join_s18_181
                    refine dOk_L (fun q_39 eq_39 => ?_)
                    have hTq_39 : TC q_39 := by rw [eq_39]; exact st_18_1 hT (show (0 : Int) ≤ (1 : Int) by omega) (show (1 : Int) ≤ (1 : Int) by omega)
                    have hFq_39 : cFr [] [(18, 1)] q q_39 := by rw [eq_39]; exact (cFr.rf (q := q)).f (by decide)
                    exact dOk_some (show (TC q_39) ∧ (cFr [] [(18, 1)] q q_39) from ⟨hTq_39, hFq_39⟩)
              · refine dOk_G (dnl_ok (by (first | decide | (intro z9; exact c9 (by rw [z9]; decide))))) ?_
                unfold zX2_join_s18_161
                unfold zX2_join_s18_163
                refine dOk_lt rfl rfl (fun c9 => ?_) (fun c9 => ?_)
                · unfold zX2_join_s18_181
                  refine dOk_L (fun q_40 eq_40 => ?_)
                  have hTq_40 : TC q_40 := by rw [eq_40]; exact st_18_1 hT (show (0 : Int) ≤ (1 : Int) by omega) (show (1 : Int) ≤ (1 : Int) by omega)
                  have hFq_40 : cFr [] [(18, 1)] q q_40 := by rw [eq_40]; exact (cFr.rf (q := q)).f (by decide)
                  exact dOk_some (show (TC q_40) ∧ (cFr [] [(18, 1)] q q_40) from ⟨hTq_40, hFq_40⟩)
                · refine dOk_le rfl rfl (fun c9 => ?_) (fun c9 => ?_)
                  · exact dOk_some (show (TC q) ∧ (cFr [] [(18, 1)] q q) from ⟨hT, (cFr.rf (q := q))⟩)
                  · unfold zX2_join_s18_181
                    refine dOk_L (fun q_41 eq_41 => ?_)
                    have hTq_41 : TC q_41 := by rw [eq_41]; exact st_18_1 hT (show (0 : Int) ≤ (1 : Int) by omega) (show (1 : Int) ≤ (1 : Int) by omega)
                    have hFq_41 : cFr [] [(18, 1)] q q_41 := by rw [eq_41]; exact (cFr.rf (q := q)).f (by decide)
                    exact dOk_some (show (TC q_41) ∧ (cFr [] [(18, 1)] q q_41) from ⟨hTq_41, hFq_41⟩)
          · refine dOk_eq (A := Int32.toInt p1) (B := 7) rfl (by decide) (fun c_42z c_42 => ?_) (fun c_43z c_43 => ?_)
            · refine dOk_le rfl rfl (fun c9 => ?_) (fun c9 => ?_)
              · unfold zX2_join_s18_91
                unfold zX2_join_s18_163
                refine dOk_lt rfl rfl (fun c9 => ?_) (fun c9 => ?_)
                · unfold zX2_join_s18_181
                  refine dOk_L (fun q_45 eq_45 => ?_)
                  have hTq_45 : TC q_45 := by rw [eq_45]; exact st_18_1 hT (show (0 : Int) ≤ (1 : Int) by omega) (show (1 : Int) ≤ (1 : Int) by omega)
                  have hFq_45 : cFr [] [(18, 1)] q q_45 := by rw [eq_45]; exact (cFr.rf (q := q)).f (by decide)
                  exact dOk_some (show (TC q_45) ∧ (cFr [] [(18, 1)] q q_45) from ⟨hTq_45, hFq_45⟩)
                · refine dOk_le rfl rfl (fun c9 => ?_) (fun c9 => ?_)
                  · exact dOk_some (show (TC q) ∧ (cFr [] [(18, 1)] q q) from ⟨hT, (cFr.rf (q := q))⟩)
                  · unfold zX2_join_s18_181
                    refine dOk_L (fun q_46 eq_46 => ?_)
                    have hTq_46 : TC q_46 := by rw [eq_46]; exact st_18_1 hT (show (0 : Int) ≤ (1 : Int) by omega) (show (1 : Int) ≤ (1 : Int) by omega)
                    have hFq_46 : cFr [] [(18, 1)] q q_46 := by rw [eq_46]; exact (cFr.rf (q := q)).f (by decide)
                    exact dOk_some (show (TC q_46) ∧ (cFr [] [(18, 1)] q q_46) from ⟨hTq_46, hFq_46⟩)
              · unfold zX2_join_s18_91
                unfold zX2_join_s18_163
                refine dOk_lt rfl rfl (fun c9 => ?_) (fun c9 => ?_)
                · unfold zX2_join_s18_181
                  refine dOk_L (fun q_47 eq_47 => ?_)
                  have hTq_47 : TC q_47 := by rw [eq_47]; exact st_18_1 hT (show (0 : Int) ≤ (1 : Int) by omega) (show (1 : Int) ≤ (1 : Int) by omega)
                  have hFq_47 : cFr [] [(18, 1)] q q_47 := by rw [eq_47]; exact (cFr.rf (q := q)).f (by decide)
                  exact dOk_some (show (TC q_47) ∧ (cFr [] [(18, 1)] q q_47) from ⟨hTq_47, hFq_47⟩)
                · refine dOk_le rfl rfl (fun c9 => ?_) (fun c9 => ?_)
                  · exact dOk_some (show (TC q) ∧ (cFr [] [(18, 1)] q q) from ⟨hT, (cFr.rf (q := q))⟩)
                  · unfold zX2_join_s18_181
                    refine dOk_L (fun q_48 eq_48 => ?_)
                    have hTq_48 : TC q_48 := by rw [eq_48]; exact st_18_1 hT (show (0 : Int) ≤ (1 : Int) by omega) (show (1 : Int) ≤ (1 : Int) by omega)
                    have hFq_48 : cFr [] [(18, 1)] q q_48 := by rw [eq_48]; exact (cFr.rf (q := q)).f (by decide)
                    exact dOk_some (show (TC q_48) ∧ (cFr [] [(18, 1)] q q_48) from ⟨hTq_48, hFq_48⟩)
            · refine dOk_eq (A := Int32.toInt p1) (B := 8) rfl (by decide) (fun c_49z c_49 => ?_) (fun c_50z c_50 => ?_)
              · refine dOk_le rfl rfl (fun c9 => ?_) (fun c9 => ?_)
                · unfold zX2_join_s18_108
                  unfold zX2_join_s18_163
                  refine dOk_lt rfl rfl (fun c9 => ?_) (fun c9 => ?_)
                  · unfold zX2_join_s18_181
                    refine dOk_L (fun q_52 eq_52 => ?_)
                    have hTq_52 : TC q_52 := by rw [eq_52]; exact st_18_1 hT (show (0 : Int) ≤ (1 : Int) by omega) (show (1 : Int) ≤ (1 : Int) by omega)
                    have hFq_52 : cFr [] [(18, 1)] q q_52 := by rw [eq_52]; exact (cFr.rf (q := q)).f (by decide)
                    exact dOk_some (show (TC q_52) ∧ (cFr [] [(18, 1)] q q_52) from ⟨hTq_52, hFq_52⟩)
                  · refine dOk_le rfl rfl (fun c9 => ?_) (fun c9 => ?_)
                    · exact dOk_some (show (TC q) ∧ (cFr [] [(18, 1)] q q) from ⟨hT, (cFr.rf (q := q))⟩)
                    · unfold zX2_join_s18_181
                      refine dOk_L (fun q_53 eq_53 => ?_)
                      have hTq_53 : TC q_53 := by rw [eq_53]; exact st_18_1 hT (show (0 : Int) ≤ (1 : Int) by omega) (show (1 : Int) ≤ (1 : Int) by omega)
                      have hFq_53 : cFr [] [(18, 1)] q q_53 := by rw [eq_53]; exact (cFr.rf (q := q)).f (by decide)
                      exact dOk_some (show (TC q_53) ∧ (cFr [] [(18, 1)] q q_53) from ⟨hTq_53, hFq_53⟩)
                · unfold zX2_join_s18_108
                  unfold zX2_join_s18_163
                  refine dOk_lt rfl rfl (fun c9 => ?_) (fun c9 => ?_)
                  · unfold zX2_join_s18_181
                    refine dOk_L (fun q_54 eq_54 => ?_)
                    have hTq_54 : TC q_54 := by rw [eq_54]; exact st_18_1 hT (show (0 : Int) ≤ (1 : Int) by omega) (show (1 : Int) ≤ (1 : Int) by omega)
                    have hFq_54 : cFr [] [(18, 1)] q q_54 := by rw [eq_54]; exact (cFr.rf (q := q)).f (by decide)
                    exact dOk_some (show (TC q_54) ∧ (cFr [] [(18, 1)] q q_54) from ⟨hTq_54, hFq_54⟩)
                  · refine dOk_le rfl rfl (fun c9 => ?_) (fun c9 => ?_)
                    · exact dOk_some (show (TC q) ∧ (cFr [] [(18, 1)] q q) from ⟨hT, (cFr.rf (q := q))⟩)
                    · unfold zX2_join_s18_181
                      refine dOk_L (fun q_55 eq_55 => ?_)
                      have hTq_55 : TC q_55 := by rw [eq_55]; exact st_18_1 hT (show (0 : Int) ≤ (1 : Int) by omega) (show (1 : Int) ≤ (1 : Int) by omega)
                      have hFq_55 : cFr [] [(18, 1)] q q_55 := by rw [eq_55]; exact (cFr.rf (q := q)).f (by decide)
                      exact dOk_some (show (TC q_55) ∧ (cFr [] [(18, 1)] q q_55) from ⟨hTq_55, hFq_55⟩)
              · refine dOk_eq (A := Int32.toInt p1) (B := 9) rfl (by decide) (fun c_56z c_56 => ?_) (fun c_57z c_57 => ?_)
                · refine dOk_eq rfl rfl (fun _ c9 => ?_) (fun _ c9 => ?_)
                  · unfold zX2_join_s18_125
                    unfold zX2_join_s18_163
                    refine dOk_lt rfl rfl (fun c9 => ?_) (fun c9 => ?_)
                    · unfold zX2_join_s18_181
                      refine dOk_L (fun q_59 eq_59 => ?_)
                      have hTq_59 : TC q_59 := by rw [eq_59]; exact st_18_1 hT (show (0 : Int) ≤ (1 : Int) by omega) (show (1 : Int) ≤ (1 : Int) by omega)
                      have hFq_59 : cFr [] [(18, 1)] q q_59 := by rw [eq_59]; exact (cFr.rf (q := q)).f (by decide)
                      exact dOk_some (show (TC q_59) ∧ (cFr [] [(18, 1)] q q_59) from ⟨hTq_59, hFq_59⟩)
                    · refine dOk_le rfl rfl (fun c9 => ?_) (fun c9 => ?_)
                      · exact dOk_some (show (TC q) ∧ (cFr [] [(18, 1)] q q) from ⟨hT, (cFr.rf (q := q))⟩)
                      · unfold zX2_join_s18_181
                        refine dOk_L (fun q_60 eq_60 => ?_)
                        have hTq_60 : TC q_60 := by rw [eq_60]; exact st_18_1 hT (show (0 : Int) ≤ (1 : Int) by omega) (show (1 : Int) ≤ (1 : Int) by omega)
                        have hFq_60 : cFr [] [(18, 1)] q q_60 := by rw [eq_60]; exact (cFr.rf (q := q)).f (by decide)
                        exact dOk_some (show (TC q_60) ∧ (cFr [] [(18, 1)] q q_60) from ⟨hTq_60, hFq_60⟩)
                  · unfold zX2_join_s18_125
                    unfold zX2_join_s18_163
                    refine dOk_lt rfl rfl (fun c9 => ?_) (fun c9 => ?_)
                    · unfold zX2_join_s18_181
                      refine dOk_L (fun q_61 eq_61 => ?_)
                      have hTq_61 : TC q_61 := by rw [eq_61]; exact st_18_1 hT (show (0 : Int) ≤ (1 : Int) by omega) (show (1 : Int) ≤ (1 : Int) by omega)
                      have hFq_61 : cFr [] [(18, 1)] q q_61 := by rw [eq_61]; exact (cFr.rf (q := q)).f (by decide)
                      exact dOk_some (show (TC q_61) ∧ (cFr [] [(18, 1)] q q_61) from ⟨hTq_61, hFq_61⟩)
                    · refine dOk_le rfl rfl (fun c9 => ?_) (fun c9 => ?_)
                      · exact dOk_some (show (TC q) ∧ (cFr [] [(18, 1)] q q) from ⟨hT, (cFr.rf (q := q))⟩)
                      · unfold zX2_join_s18_181
                        refine dOk_L (fun q_62 eq_62 => ?_)
                        have hTq_62 : TC q_62 := by rw [eq_62]; exact st_18_1 hT (show (0 : Int) ≤ (1 : Int) by omega) (show (1 : Int) ≤ (1 : Int) by omega)
                        have hFq_62 : cFr [] [(18, 1)] q q_62 := by rw [eq_62]; exact (cFr.rf (q := q)).f (by decide)
                        exact dOk_some (show (TC q_62) ∧ (cFr [] [(18, 1)] q q_62) from ⟨hTq_62, hFq_62⟩)
                · refine dOk_eq rfl rfl (fun _ c9 => ?_) (fun _ c9 => ?_)
                  · refine dOk_L (fun q_63 eq_63 => ?_)
                    have hTq_63 : TC q_63 := by rw [eq_63]; exact st_18_1 hT (show (0 : Int) ≤ (1 : Int) by omega) (show (1 : Int) ≤ (1 : Int) by omega)
                    have hFq_63 : cFr [] [(18, 1)] q q_63 := by rw [eq_63]; exact (cFr.rf (q := q)).f (by decide)
                    unfold zX2_join_s18_163
                    refine dOk_lt rfl rfl (fun c9 => ?_) (fun c9 => ?_)
                    · unfold zX2_join_s18_181
                      refine dOk_L (fun q_64 eq_64 => ?_)
                      have hTq_64 : TC q_64 := by rw [eq_64]; exact st_18_1 hTq_63 (show (0 : Int) ≤ (1 : Int) by omega) (show (1 : Int) ≤ (1 : Int) by omega)
                      have hFq_64 : cFr [] [(18, 1)] q q_64 := by rw [eq_64]; exact hFq_63.f (by decide)
                      exact dOk_some (show (TC q_64) ∧ (cFr [] [(18, 1)] q q_64) from ⟨hTq_64, hFq_64⟩)
                    · refine dOk_le rfl rfl (fun c9 => ?_) (fun c9 => ?_)
                      · exact dOk_some (show (TC q_63) ∧ (cFr [] [(18, 1)] q q_63) from ⟨hTq_63, hFq_63⟩)
                      · unfold zX2_join_s18_181
                        refine dOk_L (fun q_65 eq_65 => ?_)
                        have hTq_65 : TC q_65 := by rw [eq_65]; exact st_18_1 hTq_63 (show (0 : Int) ≤ (1 : Int) by omega) (show (1 : Int) ≤ (1 : Int) by omega)
                        have hFq_65 : cFr [] [(18, 1)] q q_65 := by rw [eq_65]; exact hFq_63.f (by decide)
                        exact dOk_some (show (TC q_65) ∧ (cFr [] [(18, 1)] q q_65) from ⟨hTq_65, hFq_65⟩)
                  · refine dOk_eq (A := Int32.toInt p1) (B := 5) rfl (by decide) (fun c_66z c_66 => ?_) (fun c_67z c_67 => ?_)
                    · refine dOk_G (dnl_ok (by (first | decide | (intro z9; exact c9 (by rw [z9]; decide))))) ?_
                      unfold zX2_join_s18_161
                      unfold zX2_join_s18_163
                      refine dOk_lt rfl rfl (fun c9 => ?_) (fun c9 => ?_)
                      · unfold zX2_join_s18_181
                        refine dOk_L (fun q_69 eq_69 => ?_)
                        have hTq_69 : TC q_69 := by rw [eq_69]; exact st_18_1 hT (show (0 : Int) ≤ (1 : Int) by omega) (show (1 : Int) ≤ (1 : Int) by omega)
                        have hFq_69 : cFr [] [(18, 1)] q q_69 := by rw [eq_69]; exact (cFr.rf (q := q)).f (by decide)
                        exact dOk_some (show (TC q_69) ∧ (cFr [] [(18, 1)] q q_69) from ⟨hTq_69, hFq_69⟩)
                      · refine dOk_le rfl rfl (fun c9 => ?_) (fun c9 => ?_)
                        · exact dOk_some (show (TC q) ∧ (cFr [] [(18, 1)] q q) from ⟨hT, (cFr.rf (q := q))⟩)
                        · unfold zX2_join_s18_181
                          refine dOk_L (fun q_70 eq_70 => ?_)
                          have hTq_70 : TC q_70 := by rw [eq_70]; exact st_18_1 hT (show (0 : Int) ≤ (1 : Int) by omega) (show (1 : Int) ≤ (1 : Int) by omega)
                          have hFq_70 : cFr [] [(18, 1)] q q_70 := by rw [eq_70]; exact (cFr.rf (q := q)).f (by decide)
                          exact dOk_some (show (TC q_70) ∧ (cFr [] [(18, 1)] q q_70) from ⟨hTq_70, hFq_70⟩)
                    · refine dOk_G (dnl_ok (by (first | decide | (intro z9; exact c9 (by rw [z9]; decide))))) ?_
                      unfold zX2_join_s18_161
                      unfold zX2_join_s18_163
                      refine dOk_lt rfl rfl (fun c9 => ?_) (fun c9 => ?_)
                      · unfold zX2_join_s18_181
                        refine dOk_L (fun q_71 eq_71 => ?_)
                        have hTq_71 : TC q_71 := by rw [eq_71]; exact st_18_1 hT (show (0 : Int) ≤ (1 : Int) by omega) (show (1 : Int) ≤ (1 : Int) by omega)
                        have hFq_71 : cFr [] [(18, 1)] q q_71 := by rw [eq_71]; exact (cFr.rf (q := q)).f (by decide)
                        exact dOk_some (show (TC q_71) ∧ (cFr [] [(18, 1)] q q_71) from ⟨hTq_71, hFq_71⟩)
                      · refine dOk_le rfl rfl (fun c9 => ?_) (fun c9 => ?_)
                        · exact dOk_some (show (TC q) ∧ (cFr [] [(18, 1)] q q) from ⟨hT, (cFr.rf (q := q))⟩)
                        · unfold zX2_join_s18_181
                          refine dOk_L (fun q_72 eq_72 => ?_)
                          have hTq_72 : TC q_72 := by rw [eq_72]; exact st_18_1 hT (show (0 : Int) ≤ (1 : Int) by omega) (show (1 : Int) ≤ (1 : Int) by omega)
                          have hFq_72 : cFr [] [(18, 1)] q q_72 := by rw [eq_72]; exact (cFr.rf (q := q)).f (by decide)
                          exact dOk_some (show (TC q_72) ∧ (cFr [] [(18, 1)] q q_72) from ⟨hTq_72, hFq_72⟩)
