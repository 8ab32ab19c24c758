/-- the long rows of the history -/
def Lo (f g : Nat → Int64) (q : dK) : Prop := q.2.1 11 = f ∧ q.2.1 13 = g
theorem lo_cul {q : dK} {j k : Nat} {v : Int64} {f g : Nat → Int64} (h : Lo f g q) (h1 : ¬ 11 = j) (h2 : ¬ 13 = j) : Lo f g (cul q j k v) := by
  have e1 : (cul q j k v).2.1 11 = q.2.1 11 := if_neg h1
  have e2 : (cul q j k v).2.1 13 = q.2.1 13 := if_neg h2
  exact ⟨e1.trans h.1, e2.trans h.2⟩
theorem lo_cfl {q : dK} {j n : Nat} {v : Int64} {f g : Nat → Int64} (h : Lo f g q) (h1 : ¬ 11 = j) (h2 : ¬ 13 = j) : Lo f g (cfl q j n v) := by
  have e1 : (cfl q j n v).2.1 11 = q.2.1 11 := if_neg h1
  have e2 : (cfl q j n v).2.1 13 = q.2.1 13 := if_neg h2
  exact ⟨e1.trans h.1, e2.trans h.2⟩

theorem lo_zX8_has_s2_2b (f g : Nat → Int64) (k2 : dK → Int32 → Int32 → Option (Int32 × dK)) (hk2 : ∀ (y0 : dK) (y1 : Int32) (y2 : Int32), Lo f g y0 → dAll (k2 y0 y1 y2) (fun o => Lo f g o.2)) (q : dK) (x1 : Int32) (x2 : Int32) (h : Lo f g q) : dAll (zX8_has_s2_2b k2 q x1 x2) (fun o => Lo f g o.2) := by
  unfold zX8_has_s2_2b
  refine dA_if (fun _ => ?_) (fun _ => ?_)
  · exact dA_some h
  · refine dA_G (fun _ => ?_)
    refine dA_L (fun v2 e_1 => ?_)
    refine dA_if (fun _ => ?_) (fun _ => ?_)
    · exact dA_some h
    · exact hk2 q x1 (x2 + 1) h

theorem lo_zX8_has_s2_2 (f g : Nat → Int64) (n : Nat) (q : dK) (x1 : Int32) (x2 : Int32) (h : Lo f g q) : dAll (zX8_has_s2_2 n q x1 x2) (fun o => Lo f g o.2) := by
  unfold zX8_has_s2_2
  exact dA_fix (fun (a : dK × Int32 × Int32) => Lo f g a.1) (fun k hk a ha => lo_zX8_has_s2_2b f g  _ (fun q x1 x2 hq => hk (q, x1, x2) hq) a.1 a.2.1 a.2.2 ha) n _ h

theorem lo_zX8_has_s2 (f g : Nat → Int64) (q : dK) (p1 : Int32) (h : Lo f g q) : dAll (zX8_has_s2 q p1) (fun o => Lo f g o.2) := by
  unfold zX8_has_s2
  exact lo_zX8_has_s2_2 f g dF q p1 0 h

theorem lo_zX8_add_s2 (f g : Nat → Int64) (q : dK) (p1 : Int32) (p2 : Int32) (h : Lo f g q) : dAll (zX8_add_s2 q p1 p2) (fun o => Lo f g o.2) := by
  unfold zX8_add_s2
  refine dA_if (fun _ => ?_) (fun _ => ?_)
  · refine dA_G (fun _ => ?_)
    refine dA_L (fun q2 e_1 => ?_)
    have hq2 : Lo f g q2 := by rw [e_1]; exact h
    refine dA_G (fun _ => ?_)
    refine dA_L (fun q4 e_2 => ?_)
    have hq4 : Lo f g q4 := by rw [e_2]; exact hq2
    refine dA_L (fun q5 e_3 => ?_)
    have hq5 : Lo f g q5 := by rw [e_3]; exact hq4
    exact dA_some hq5
  · exact dA_some h

theorem lo_zX0_clear_s10 (f g : Nat → Int64) (q : dK) (h : Lo f g q) : dAll (zX0_clear_s10 q) (fun o => Lo f g o) := by
  unfold zX0_clear_s10
  refine dA_L (fun q1 e_1 => ?_)
  have hq1 : Lo f g q1 := by rw [e_1]; exact h
  exact dA_some hq1

theorem lo_zX9_accept_s0 (f g : Nat → Int64) (q : dK) (p1 : Int32) (h : Lo f g q) : dAll (zX9_accept_s0 q p1) (fun o => Lo f g o.2) := by
  unfold zX9_accept_s0
  refine dA_L (fun q1 e_1 => ?_)
  have hq1 : Lo f g q1 := by rw [e_1]; exact h
  exact dA_some hq1

theorem lo_zX9_refuse_s0_26 (f g : Nat → Int64) (q : dK) (x1 : Int32) (h : Lo f g q) : dAll (zX9_refuse_s0_26 q x1) (fun o => Lo f g o.2) := by
  unfold zX9_refuse_s0_26
  exact dA_some h

theorem lo_zX9_refuse_s0 (f g : Nat → Int64) (q : dK) (p1 : Int32) (h : Lo f g q) : dAll (zX9_refuse_s0 q p1) (fun o => Lo f g o.2) := by
  unfold zX9_refuse_s0
  refine dA_L (fun q1 e_1 => ?_)
  have hq1 : Lo f g q1 := by rw [e_1]; exact h
  refine dA_if (fun _ => ?_) (fun _ => ?_)
  · exact lo_zX9_refuse_s0_26 f g q1 p1 hq1
  · refine dA_if (fun _ => ?_) (fun _ => ?_)
    · exact lo_zX9_refuse_s0_26 f g q1 p1 hq1
    · refine dA_G (fun _ => ?_)
      refine dA_L (fun v3 e_2 => ?_)
      refine dA_G (fun _ => ?_)
      refine dA_L (fun q5 e_3 => ?_)
      have hq5 : Lo f g q5 := by rw [e_3]; exact hq1
      exact lo_zX9_refuse_s0_26 f g q5 p1 hq5

theorem lo_zX9_floor_s0_14 (f g : Nat → Int64) (q : dK) (h : Lo f g q) : dAll (zX9_floor_s0_14 q) (fun o => Lo f g o.2) := by
  unfold zX9_floor_s0_14
  refine dA_B (lo_zX9_refuse_s0 f g q (-1) h) (fun r1 q3 hq3 => ?_)
  exact dA_some hq3

theorem lo_zX9_floor_s0 (f g : Nat → Int64) (q : dK) (p1 : Int32) (p2 : Int32) (h : Lo f g q) : dAll (zX9_floor_s0 q p1 p2) (fun o => Lo f g o.2) := by
  unfold zX9_floor_s0
  refine dA_V dA_tr (fun r1 _ => ?_)
  refine dA_if (fun _ => ?_) (fun _ => ?_)
  · exact lo_zX9_floor_s0_14 f g q h
  · refine dA_V dA_tr (fun r3 _ => ?_)
    refine dA_if (fun _ => ?_) (fun _ => ?_)
    · exact lo_zX9_floor_s0_14 f g q h
    · refine dA_B (lo_zX8_has_s2 f g q p1 h) (fun r5 q7 hq7 => ?_)
      refine dA_if (fun _ => ?_) (fun _ => ?_)
      · refine dA_B (lo_zX8_add_s2 f g q7 p1 p2 hq7) (fun r8 q10 hq10 => ?_)
        refine dA_if (fun _ => ?_) (fun _ => ?_)
        · refine dA_B (lo_zX9_refuse_s0 f g q10 (-5) hq10) (fun r17 q19 hq19 => ?_)
          exact dA_some hq19
        · refine dA_V (lo_zX0_clear_s10 f g q10 hq10) (fun q13 hq13 => ?_)
          refine dA_B (lo_zX9_accept_s0 f g q13 ((q13.1 2 2) - 1 : Int32) hq13) (fun r14 q16 hq16 => ?_)
          exact dA_some hq16
      · refine dA_B (lo_zX9_refuse_s0 f g q7 (-3) hq7) (fun r20 q22 hq22 => ?_)
        exact dA_some hq22

theorem lo_zX8_isFloor_s2_17 (f g : Nat → Int64) (q : dK) (y0 : Int32) (h : Lo f g q) : dAll (zX8_isFloor_s2_17 q y0) (fun o => Lo f g o.2) := by
  unfold zX8_isFloor_s2_17
  refine dA_G (fun _ => ?_)
  exact dA_some h

theorem lo_zX8_isFloor_s2_16 (f g : Nat → Int64) (q : dK) (h : Lo f g q) : dAll (zX8_isFloor_s2_16 q) (fun o => Lo f g o.2) := by
  unfold zX8_isFloor_s2_16
  exact lo_zX8_isFloor_s2_17 f g q 0 h

theorem lo_zX8_isFloor_s2 (f g : Nat → Int64) (q : dK) (p1 : Int32) (h : Lo f g q) : dAll (zX8_isFloor_s2 q p1) (fun o => Lo f g o.2) := by
  unfold zX8_isFloor_s2
  refine dA_if (fun _ => ?_) (fun _ => ?_)
  · exact lo_zX8_isFloor_s2_16 f g q h
  · refine dA_if (fun _ => ?_) (fun _ => ?_)
    · exact lo_zX8_isFloor_s2_16 f g q h
    · exact lo_zX8_isFloor_s2_17 f g q 1 h

theorem lo_zX8_tell_s2_36 (f g : Nat → Int64) (q : dK) (y0 : Int32) (h : Lo f g q) : dAll (zX8_tell_s2_36 q y0) (fun o => Lo f g o.2) := by
  unfold zX8_tell_s2_36
  exact dA_some h

theorem lo_zX8_tell_s2_15 (f g : Nat → Int64) (q : dK) (h : Lo f g q) : dAll (zX8_tell_s2_15 q) (fun o => Lo f g o.2) := by
  unfold zX8_tell_s2_15
  exact dA_some h

theorem lo_zX8_tell_s2 (f g : Nat → Int64) (q : dK) (p1 : Int32) (p2 : Int32) (h : Lo f g q) : dAll (zX8_tell_s2 q p1 p2) (fun o => Lo f g o.2) := by
  unfold zX8_tell_s2
  refine dA_B (lo_zX8_isFloor_s2 f g q p1 h) (fun r1 q3 hq3 => ?_)
  refine dA_if (fun _ => ?_) (fun _ => ?_)
  · exact lo_zX8_tell_s2_15 f g q3 hq3
  · refine dA_V dA_tr (fun r4 _ => ?_)
    refine dA_if (fun _ => ?_) (fun _ => ?_)
    · exact lo_zX8_tell_s2_15 f g q3 hq3
    · refine dA_if (fun _ => ?_) (fun _ => ?_)
      · refine dA_G (fun _ => ?_)
        refine dA_L (fun v9 e_1 => ?_)
        exact lo_zX8_tell_s2_36 f g q3 v9 hq3
      · refine dA_G (fun _ => ?_)
        refine dA_L (fun v7 e_2 => ?_)
        exact lo_zX8_tell_s2_36 f g q3 v7 hq3

theorem lo_zX6_isLaw_s1_17 (f g : Nat → Int64) (q : dK) (y0 : Int32) (h : Lo f g q) : dAll (zX6_isLaw_s1_17 q y0) (fun o => Lo f g o.2) := by
  unfold zX6_isLaw_s1_17
  refine dA_G (fun _ => ?_)
  exact dA_some h

theorem lo_zX6_isLaw_s1_16 (f g : Nat → Int64) (q : dK) (h : Lo f g q) : dAll (zX6_isLaw_s1_16 q) (fun o => Lo f g o.2) := by
  unfold zX6_isLaw_s1_16
  exact lo_zX6_isLaw_s1_17 f g q 0 h

theorem lo_zX6_isLaw_s1 (f g : Nat → Int64) (q : dK) (p1 : Int32) (h : Lo f g q) : dAll (zX6_isLaw_s1 q p1) (fun o => Lo f g o.2) := by
  unfold zX6_isLaw_s1
  refine dA_if (fun _ => ?_) (fun _ => ?_)
  · exact lo_zX6_isLaw_s1_16 f g q h
  · refine dA_if (fun _ => ?_) (fun _ => ?_)
    · exact lo_zX6_isLaw_s1_16 f g q h
    · exact lo_zX6_isLaw_s1_17 f g q 1 h

theorem lo_zX6_lawAt_s1_18 (f g : Nat → Int64) (q : dK) (h : Lo f g q) : dAll (zX6_lawAt_s1_18 q) (fun o => Lo f g o.2) := by
  unfold zX6_lawAt_s1_18
  exact dA_some h

theorem lo_zX6_lawAt_s1 (f g : Nat → Int64) (q : dK) (p1 : Int32) (h : Lo f g q) : dAll (zX6_lawAt_s1 q p1) (fun o => Lo f g o.2) := by
  unfold zX6_lawAt_s1
  refine dA_B (lo_zX6_isLaw_s1 f g q p1 h) (fun r1 q3 hq3 => ?_)
  refine dA_if (fun _ => ?_) (fun _ => ?_)
  · exact lo_zX6_lawAt_s1_18 f g q3 hq3
  · refine dA_G (fun _ => ?_)
    refine dA_L (fun v5 e_1 => ?_)
    exact dA_some hq3

theorem lo_zX1_seat_s20_n (f g : Nat → Int64) (q : dK) (p2 : Int32) (h : Lo f g q) : dAll (zX1_seat_s20_n q p2) (fun o => Lo f g o) := by
  unfold zX1_seat_s20_n
  refine dA_L (fun q1 e_1 => ?_)
  have hq1 : Lo f g q1 := by rw [e_1]; exact h
  refine dA_L (fun q2 e_2 => ?_)
  have hq2 : Lo f g q2 := by rw [e_2]; exact hq1
  exact dA_some hq2

theorem lo_zX1_seat_s20_l (f g : Nat → Int64) (q : dK) (p1 : Int32) (p2 : Int32) (h : Lo f g q) : dAll (zX1_seat_s20_l q p1 p2) (fun o => Lo f g o) := by
  unfold zX1_seat_s20_l
  refine dA_G (fun _ => ?_)
  refine dA_L (fun q2 e_1 => ?_)
  have hq2 : Lo f g q2 := by rw [e_1]; exact h
  refine dA_L (fun q3 e_2 => ?_)
  have hq3 : Lo f g q3 := by rw [e_2]; exact hq2
  exact dA_some hq3

theorem lo_zX9_seated_s0 (f g : Nat → Int64) (q : dK) (h : Lo f g q) : dAll (zX9_seated_s0 q) (fun o => Lo f g o) := by
  unfold zX9_seated_s0
  refine dA_B (lo_zX6_lawAt_s1 f g q (q.1 1 9) h) (fun r1 q3 hq3 => ?_)
  refine dA_if (fun _ => ?_) (fun _ => ?_)
  · refine dA_V (lo_zX1_seat_s20_n f g q3 (q3.1 1 2) hq3) (fun q7 hq7 => ?_)
    exact dA_some hq7
  · refine dA_V (lo_zX1_seat_s20_l f g q3 r1 (q3.1 1 2) hq3) (fun q10 hq10 => ?_)
    exact dA_some hq10

theorem lo_zX1_setCommon_s20 (f g : Nat → Int64) (q : dK) (p1 : Int32) (p2 : Int32) (h : Lo f g q) : dAll (zX1_setCommon_s20 q p1 p2) (fun o => Lo f g o) := by
  unfold zX1_setCommon_s20
  refine dA_L (fun q1 e_1 => ?_)
  have hq1 : Lo f g q1 := by rw [e_1]; exact h
  refine dA_L (fun q2 e_2 => ?_)
  have hq2 : Lo f g q2 := by rw [e_2]; exact hq1
  exact dA_some hq2

theorem lo_zX2_join_s18_181 (f g : Nat → Int64) (q : dK) (h : Lo f g q) : dAll (zX2_join_s18_181 q) (fun o => Lo f g o.2) := by
  unfold zX2_join_s18_181
  refine dA_L (fun q1 e_1 => ?_)
  have hq1 : Lo f g q1 := by rw [e_1]; exact h
  exact dA_some hq1

theorem lo_zX2_join_s18_163 (f g : Nat → Int64) (q : dK) (x6 : Int64) (h : Lo f g q) : dAll (zX2_join_s18_163 q x6) (fun o => Lo f g o.2) := by
  unfold zX2_join_s18_163
  refine dA_if (fun _ => ?_) (fun _ => ?_)
  · exact lo_zX2_join_s18_181 f g q h
  · refine dA_if (fun _ => ?_) (fun _ => ?_)
    · exact dA_some h
    · exact lo_zX2_join_s18_181 f g q h

theorem lo_zX2_join_s18_161 (f g : Nat → Int64) (q : dK) (y0 : Int64) (h : Lo f g q) : dAll (zX2_join_s18_161 q y0) (fun o => Lo f g o.2) := by
  unfold zX2_join_s18_161
  exact lo_zX2_join_s18_163 f g q y0 h

theorem lo_zX2_join_s18_125 (f g : Nat → Int64) (q : dK) (y0 : Int64) (h : Lo f g q) : dAll (zX2_join_s18_125 q y0) (fun o => Lo f g o.2) := by
  unfold zX2_join_s18_125
  exact lo_zX2_join_s18_163 f g q y0 h

theorem lo_zX2_join_s18_108 (f g : Nat → Int64) (q : dK) (y0 : Int64) (h : Lo f g q) : dAll (zX2_join_s18_108 q y0) (fun o => Lo f g o.2) := by
  unfold zX2_join_s18_108
  exact lo_zX2_join_s18_163 f g q y0 h

theorem lo_zX2_join_s18_91 (f g : Nat → Int64) (q : dK) (y0 : Int64) (h : Lo f g q) : dAll (zX2_join_s18_91 q y0) (fun o => Lo f g o.2) := by
  unfold zX2_join_s18_91
  exact lo_zX2_join_s18_163 f g q y0 h

theorem lo_zX2_join_s18 (f g : Nat → Int64) (q : dK) (p1 : Int32) (p2 : Int64) (p3 : Int64) (h : Lo f g q) : dAll (zX2_join_s18 q p1 p2 p3) (fun o => Lo f g o.2) := by
  unfold zX2_join_s18
  refine dA_if (fun _ => ?_) (fun _ => ?_)
  · exact lo_zX2_join_s18_163 f g q (p2 + p3 : Int64) h
  · refine dA_if (fun _ => ?_) (fun _ => ?_)
    · exact lo_zX2_join_s18_163 f g q (p2 - p3 : Int64) h
    · refine dA_if (fun _ => ?_) (fun _ => ?_)
      · exact lo_zX2_join_s18_163 f g q (p2 * p3 : Int64) h
      · refine dA_if (fun _ => ?_) (fun _ => ?_)
        · refine dA_if (fun _ => ?_) (fun _ => ?_)
          · refine dA_L (fun q7 e_1 => ?_)
            have hq7 : Lo f g q7 := by rw [e_1]; exact h
            exact lo_zX2_join_s18_163 f g q7 0 hq7
          · refine dA_if (fun _ => ?_) (fun _ => ?_)
            · refine dA_G (fun _ => ?_)
              exact lo_zX2_join_s18_161 f g q (p2 / p3 : Int64) h
            · refine dA_G (fun _ => ?_)
              exact lo_zX2_join_s18_161 f g q (p2 - p2 / p3 * p3 : Int64) h
        · refine dA_if (fun _ => ?_) (fun _ => ?_)
          · refine dA_if (fun _ => ?_) (fun _ => ?_)
            · refine dA_L (fun q11 e_2 => ?_)
              have hq11 : Lo f g q11 := by rw [e_2]; exact h
              exact lo_zX2_join_s18_163 f g q11 0 hq11
            · refine dA_if (fun _ => ?_) (fun _ => ?_)
              · refine dA_G (fun _ => ?_)
                exact lo_zX2_join_s18_161 f g q (p2 / p3 : Int64) h
              · refine dA_G (fun _ => ?_)
                exact lo_zX2_join_s18_161 f g q (p2 - p2 / p3 * p3 : Int64) h
          · refine dA_if (fun _ => ?_) (fun _ => ?_)
            · refine dA_if (fun _ => ?_) (fun _ => ?_)
              · exact lo_zX2_join_s18_91 f g q 0 h
              · exact lo_zX2_join_s18_91 f g q 1 h
            · refine dA_if (fun _ => ?_) (fun _ => ?_)
              · refine dA_if (fun _ => ?_) (fun _ => ?_)
                · exact lo_zX2_join_s18_108 f g q 0 h
                · exact lo_zX2_join_s18_108 f g q 1 h
              · refine dA_if (fun _ => ?_) (fun _ => ?_)
                · refine dA_if (fun _ => ?_) (fun _ => ?_)
                  · exact lo_zX2_join_s18_125 f g q 1 h
                  · exact lo_zX2_join_s18_125 f g q 0 h
                · refine dA_if (fun _ => ?_) (fun _ => ?_)
                  · refine dA_L (fun q17 e_3 => ?_)
                    have hq17 : Lo f g q17 := by rw [e_3]; exact h
                    exact lo_zX2_join_s18_163 f g q17 0 hq17
                  · refine dA_if (fun _ => ?_) (fun _ => ?_)
                    · refine dA_G (fun _ => ?_)
                      exact lo_zX2_join_s18_161 f g q (p2 / p3 : Int64) h
                    · refine dA_G (fun _ => ?_)
                      exact lo_zX2_join_s18_161 f g q (p2 - p2 / p3 * p3 : Int64) h

theorem lo_zX2_valueOf_s18_l_s21_345 (f g : Nat → Int64) (q : dK) (y0 : Int32) (h : Lo f g q) : dAll (zX2_valueOf_s18_l_s21_345 q y0) (fun o => Lo f g o.2) := by
  unfold zX2_valueOf_s18_l_s21_345
  exact dA_some h

theorem lo_zX2_valueOf_s18_l_s21_328 (f g : Nat → Int64) (q : dK) (h : Lo f g q) : dAll (zX2_valueOf_s18_l_s21_328 q) (fun o => Lo f g o.2) := by
  unfold zX2_valueOf_s18_l_s21_328
  refine dA_if (fun _ => ?_) (fun _ => ?_)
  · exact lo_zX2_valueOf_s18_l_s21_345 f g q (q.1 19 0) h
  · exact lo_zX2_valueOf_s18_l_s21_345 f g q 0 h

theorem lo_zX2_valueOf_s18_l_s21_322 (f g : Nat → Int64) (k32 : dK → Int32 → Int32 → Int32 → Int32 → Int32 → Option (Int32 × dK)) (hk32 : ∀ (y0 : dK) (y1 : Int32) (y2 : Int32) (y3 : Int32) (y4 : Int32) (y5 : Int32), Lo f g y0 → dAll (k32 y0 y1 y2 y3 y4 y5) (fun o => Lo f g o.2)) (q : dK) (x1 : Int32) (x5 : Int32) (x6 : Int32) (x7 : Int32) (x8 : Int32) (h : Lo f g q) : dAll (zX2_valueOf_s18_l_s21_322 k32 q x1 x5 x6 x7 x8) (fun o => Lo f g o.2) := by
  unfold zX2_valueOf_s18_l_s21_322
  exact hk32 q x1 x5 x6 x7 (x8 + 1) h

theorem lo_zX2_valueOf_s18_l_s21_281 (f g : Nat → Int64) (k32 : dK → Int32 → Int32 → Int32 → Int32 → Int32 → Option (Int32 × dK)) (hk32 : ∀ (y0 : dK) (y1 : Int32) (y2 : Int32) (y3 : Int32) (y4 : Int32) (y5 : Int32), Lo f g y0 → dAll (k32 y0 y1 y2 y3 y4 y5) (fun o => Lo f g o.2)) (q : dK) (x1 : Int32) (x6 : Int32) (x7 : Int32) (x8 : Int32) (y0 : Int32) (h : Lo f g q) : dAll (zX2_valueOf_s18_l_s21_281 k32 q x1 x6 x7 x8 y0) (fun o => Lo f g o.2) := by
  unfold zX2_valueOf_s18_l_s21_281
  exact lo_zX2_valueOf_s18_l_s21_322 f g k32 hk32 q x1 y0 x6 x7 x8 h

theorem lo_zX2_valueOf_s18_l_s21_265 (f g : Nat → Int64) (k32 : dK → Int32 → Int32 → Int32 → Int32 → Int32 → Option (Int32 × dK)) (hk32 : ∀ (y0 : dK) (y1 : Int32) (y2 : Int32) (y3 : Int32) (y4 : Int32) (y5 : Int32), Lo f g y0 → dAll (k32 y0 y1 y2 y3 y4 y5) (fun o => Lo f g o.2)) (q : dK) (x1 : Int32) (x5 : Int32) (x7 : Int32) (x8 : Int32) (x12 : Int32) (y0 : Int32) (h : Lo f g q) : dAll (zX2_valueOf_s18_l_s21_265 k32 q x1 x5 x7 x8 x12 y0) (fun o => Lo f g o.2) := by
  unfold zX2_valueOf_s18_l_s21_265
  refine dA_if (fun _ => ?_) (fun _ => ?_)
  · exact lo_zX2_valueOf_s18_l_s21_281 f g k32 hk32 q x1 y0 x7 x8 (x5 - 1 : Int32) h
  · exact lo_zX2_valueOf_s18_l_s21_281 f g k32 hk32 q x1 y0 x7 x8 x5 h

theorem lo_zX2_valueOf_s18_l_s21_251 (f g : Nat → Int64) (k32 : dK → Int32 → Int32 → Int32 → Int32 → Int32 → Option (Int32 × dK)) (hk32 : ∀ (y0 : dK) (y1 : Int32) (y2 : Int32) (y3 : Int32) (y4 : Int32) (y5 : Int32), Lo f g y0 → dAll (k32 y0 y1 y2 y3 y4 y5) (fun o => Lo f g o.2)) (q : dK) (x1 : Int32) (x5 : Int32) (x6 : Int32) (x7 : Int32) (x8 : Int32) (x10 : Int32) (y0 : Int32) (h : Lo f g q) : dAll (zX2_valueOf_s18_l_s21_251 k32 q x1 x5 x6 x7 x8 x10 y0) (fun o => Lo f g o.2) := by
  unfold zX2_valueOf_s18_l_s21_251
  refine dA_if (fun _ => ?_) (fun _ => ?_)
  · exact lo_zX2_valueOf_s18_l_s21_265 f g k32 hk32 q x1 x5 x7 x8 y0 x6 h
  · exact lo_zX2_valueOf_s18_l_s21_265 f g k32 hk32 q x1 x5 x7 x8 y0 x10 h

theorem lo_zX2_valueOf_s18_l_s21_243 (f g : Nat → Int64) (k32 : dK → Int32 → Int32 → Int32 → Int32 → Int32 → Option (Int32 × dK)) (hk32 : ∀ (y0 : dK) (y1 : Int32) (y2 : Int32) (y3 : Int32) (y4 : Int32) (y5 : Int32), Lo f g y0 → dAll (k32 y0 y1 y2 y3 y4 y5) (fun o => Lo f g o.2)) (q : dK) (x1 : Int32) (x5 : Int32) (x6 : Int32) (x7 : Int32) (x8 : Int32) (x10 : Int32) (y0 : Int32) (y1 : Int32) (h : Lo f g q) : dAll (zX2_valueOf_s18_l_s21_243 k32 q x1 x5 x6 x7 x8 x10 y0 y1) (fun o => Lo f g o.2) := by
  unfold zX2_valueOf_s18_l_s21_243
  refine dA_if (fun _ => ?_) (fun _ => ?_)
  · exact lo_zX2_valueOf_s18_l_s21_251 f g k32 hk32 q x1 x5 x6 x7 x8 x10 1 h
  · exact lo_zX2_valueOf_s18_l_s21_251 f g k32 hk32 q x1 x5 x6 x7 x8 x10 0 h

theorem lo_zX2_valueOf_s18_l_s21_222 (f g : Nat → Int64) (k32 : dK → Int32 → Int32 → Int32 → Int32 → Int32 → Option (Int32 × dK)) (hk32 : ∀ (y0 : dK) (y1 : Int32) (y2 : Int32) (y3 : Int32) (y4 : Int32) (y5 : Int32), Lo f g y0 → dAll (k32 y0 y1 y2 y3 y4 y5) (fun o => Lo f g o.2)) (q : dK) (x1 : Int32) (x5 : Int32) (x6 : Int32) (x7 : Int32) (x8 : Int32) (x9 : Int32) (x10 : Int32) (h : Lo f g q) : dAll (zX2_valueOf_s18_l_s21_222 k32 q x1 x5 x6 x7 x8 x9 x10) (fun o => Lo f g o.2) := by
  unfold zX2_valueOf_s18_l_s21_222
  refine dA_G (fun _ => ?_)
  refine dA_L (fun v2 e_1 => ?_)
  refine dA_if (fun _ => ?_) (fun _ => ?_)
  · exact lo_zX2_valueOf_s18_l_s21_243 f g k32 hk32 q x1 x5 x6 x7 x8 x10 1 v2 h
  · exact lo_zX2_valueOf_s18_l_s21_243 f g k32 hk32 q x1 x5 x6 x7 x8 x10 0 v2 h

theorem lo_zX2_valueOf_s18_l_s21_171 (f g : Nat → Int64) (k32 : dK → Int32 → Int32 → Int32 → Int32 → Int32 → Option (Int32 × dK)) (hk32 : ∀ (y0 : dK) (y1 : Int32) (y2 : Int32) (y3 : Int32) (y4 : Int32) (y5 : Int32), Lo f g y0 → dAll (k32 y0 y1 y2 y3 y4 y5) (fun o => Lo f g o.2)) (q : dK) (x1 : Int32) (x5 : Int32) (x6 : Int32) (x7 : Int32) (x8 : Int32) (y0 : Int32) (y1 : Int32) (h : Lo f g q) : dAll (zX2_valueOf_s18_l_s21_171 k32 q x1 x5 x6 x7 x8 y0 y1) (fun o => Lo f g o.2) := by
  unfold zX2_valueOf_s18_l_s21_171
  refine dA_G (fun _ => ?_)
  refine dA_L (fun q2 e_1 => ?_)
  have hq2 : Lo f g q2 := by rw [e_1]; exact h
  exact lo_zX2_valueOf_s18_l_s21_322 f g k32 hk32 q2 x1 (x5 + 1) x6 x7 x8 hq2

theorem lo_zX2_valueOf_s18_l_s21_150 (f g : Nat → Int64) (k32 : dK → Int32 → Int32 → Int32 → Int32 → Int32 → Option (Int32 × dK)) (hk32 : ∀ (y0 : dK) (y1 : Int32) (y2 : Int32) (y3 : Int32) (y4 : Int32) (y5 : Int32), Lo f g y0 → dAll (k32 y0 y1 y2 y3 y4 y5) (fun o => Lo f g o.2)) (q : dK) (x1 : Int32) (x5 : Int32) (x6 : Int32) (x7 : Int32) (x8 : Int32) (x9 : Int32) (x10 : Int32) (h : Lo f g q) : dAll (zX2_valueOf_s18_l_s21_150 k32 q x1 x5 x6 x7 x8 x9 x10) (fun o => Lo f g o.2) := by
  unfold zX2_valueOf_s18_l_s21_150
  refine dA_if (fun _ => ?_) (fun _ => ?_)
  · exact lo_zX2_valueOf_s18_l_s21_171 f g k32 hk32 q x1 x5 x6 x7 x8 x10 x5 h
  · refine dA_G (fun _ => ?_)
    refine dA_L (fun v2 e_1 => ?_)
    exact lo_zX2_valueOf_s18_l_s21_171 f g k32 hk32 q x1 x5 x6 x7 x8 v2 x5 h

theorem lo_zX2_valueOf_s18_l_s21_139 (f g : Nat → Int64) (k32 : dK → Int32 → Int32 → Int32 → Int32 → Int32 → Option (Int32 × dK)) (hk32 : ∀ (y0 : dK) (y1 : Int32) (y2 : Int32) (y3 : Int32) (y4 : Int32) (y5 : Int32), Lo f g y0 → dAll (k32 y0 y1 y2 y3 y4 y5) (fun o => Lo f g o.2)) (q : dK) (x1 : Int32) (x5 : Int32) (x6 : Int32) (x7 : Int32) (x8 : Int32) (x9 : Int32) (x10 : Int32) (h : Lo f g q) : dAll (zX2_valueOf_s18_l_s21_139 k32 q x1 x5 x6 x7 x8 x9 x10) (fun o => Lo f g o.2) := by
  unfold zX2_valueOf_s18_l_s21_139
  refine dA_if (fun _ => ?_) (fun _ => ?_)
  · exact lo_zX2_valueOf_s18_l_s21_150 f g k32 hk32 q x1 x5 x6 x7 x8 x9 x10 h
  · refine dA_if (fun _ => ?_) (fun _ => ?_)
    · exact lo_zX2_valueOf_s18_l_s21_150 f g k32 hk32 q x1 x5 x6 x7 x8 x9 x10 h
    · refine dA_if (fun _ => ?_) (fun _ => ?_)
      · refine dA_G (fun _ => ?_)
        refine dA_L (fun v11 e_1 => ?_)
        refine dA_G (fun _ => ?_)
        refine dA_L (fun q13 e_2 => ?_)
        have hq13 : Lo f g q13 := by rw [e_2]; exact h
        exact lo_zX2_valueOf_s18_l_s21_322 f g k32 hk32 q13 x1 x5 x6 x7 x8 hq13
      · refine dA_if (fun _ => ?_) (fun _ => ?_)
        · exact lo_zX2_valueOf_s18_l_s21_222 f g k32 hk32 q x1 x5 x6 x7 x8 x9 x10 h
        · refine dA_if (fun _ => ?_) (fun _ => ?_)
          · exact lo_zX2_valueOf_s18_l_s21_222 f g k32 hk32 q x1 x5 x6 x7 x8 x9 x10 h
          · refine dA_G (fun _ => ?_)
            refine dA_L (fun v2 e_3 => ?_)
            refine dA_G (fun _ => ?_)
            refine dA_L (fun v4 e_4 => ?_)
            refine dA_B (lo_zX2_join_s18 f g q x9 (Int32.toInt64 v2) (Int32.toInt64 v4) h) (fun r5 q7 hq7 => ?_)
            refine dA_G (fun _ => ?_)
            refine dA_L (fun q9 e_5 => ?_)
            have hq9 : Lo f g q9 := by rw [e_5]; exact hq7
            exact lo_zX2_valueOf_s18_l_s21_322 f g k32 hk32 q9 x1 (x5 + (-1)) x6 x7 x8 hq9

theorem lo_zX2_valueOf_s18_l_s21_131 (f g : Nat → Int64) (k32 : dK → Int32 → Int32 → Int32 → Int32 → Int32 → Option (Int32 × dK)) (hk32 : ∀ (y0 : dK) (y1 : Int32) (y2 : Int32) (y3 : Int32) (y4 : Int32) (y5 : Int32), Lo f g y0 → dAll (k32 y0 y1 y2 y3 y4 y5) (fun o => Lo f g o.2)) (q : dK) (x1 : Int32) (x5 : Int32) (x6 : Int32) (x7 : Int32) (x8 : Int32) (h : Lo f g q) : dAll (zX2_valueOf_s18_l_s21_131 k32 q x1 x5 x6 x7 x8) (fun o => Lo f g o.2) := by
  unfold zX2_valueOf_s18_l_s21_131
  refine dA_L (fun q1 e_1 => ?_)
  have hq1 : Lo f g q1 := by rw [e_1]; exact h
  exact lo_zX2_valueOf_s18_l_s21_322 f g k32 hk32 q1 x1 x5 x6 x7 x8 hq1

theorem lo_zX2_valueOf_s18_l_s21_98 (f g : Nat → Int64) (k32 : dK → Int32 → Int32 → Int32 → Int32 → Int32 → Option (Int32 × dK)) (hk32 : ∀ (y0 : dK) (y1 : Int32) (y2 : Int32) (y3 : Int32) (y4 : Int32) (y5 : Int32), Lo f g y0 → dAll (k32 y0 y1 y2 y3 y4 y5) (fun o => Lo f g o.2)) (q : dK) (x1 : Int32) (x5 : Int32) (x6 : Int32) (x7 : Int32) (x8 : Int32) (x9 : Int32) (x10 : Int32) (y0 : Int32) (h : Lo f g q) : dAll (zX2_valueOf_s18_l_s21_98 k32 q x1 x5 x6 x7 x8 x9 x10 y0) (fun o => Lo f g o.2) := by
  unfold zX2_valueOf_s18_l_s21_98
  refine dA_if (fun _ => ?_) (fun _ => ?_)
  · exact lo_zX2_valueOf_s18_l_s21_131 f g k32 hk32 q x1 x5 (x6 + 1) x7 x8 h
  · refine dA_if (fun _ => ?_) (fun _ => ?_)
    · exact lo_zX2_valueOf_s18_l_s21_131 f g k32 hk32 q x1 x5 (x6 + 1) x7 x8 h
    · refine dA_if (fun _ => ?_) (fun _ => ?_)
      · refine dA_if (fun _ => ?_) (fun _ => ?_)
        · exact lo_zX2_valueOf_s18_l_s21_139 f g k32 hk32 q x1 x5 (x6 + 1) x7 x8 x9 x10 h
        · exact lo_zX2_valueOf_s18_l_s21_131 f g k32 hk32 q x1 x5 (x6 + 1) x7 x8 h
      · exact lo_zX2_valueOf_s18_l_s21_139 f g k32 hk32 q x1 x5 (x6 + 1) x7 x8 x9 x10 h

theorem lo_zX2_valueOf_s18_l_s21_32b (f g : Nat → Int64) (k32 : dK → Int32 → Int32 → Int32 → Int32 → Int32 → Option (Int32 × dK)) (hk32 : ∀ (y0 : dK) (y1 : Int32) (y2 : Int32) (y3 : Int32) (y4 : Int32) (y5 : Int32), Lo f g y0 → dAll (k32 y0 y1 y2 y3 y4 y5) (fun o => Lo f g o.2)) (q : dK) (x1 : Int32) (x5 : Int32) (x6 : Int32) (x7 : Int32) (x8 : Int32) (h : Lo f g q) : dAll (zX2_valueOf_s18_l_s21_32b k32 q x1 x5 x6 x7 x8) (fun o => Lo f g o.2) := by
  unfold zX2_valueOf_s18_l_s21_32b
  simp only [txC_r, txL_r, txN_r, txK_r, txR_r]
  refine dA_if (fun _ => ?_) (fun _ => ?_)
  · exact lo_zX2_valueOf_s18_l_s21_328 f g q h
  · refine dA_if (fun _ => ?_) (fun _ => ?_)
    · exact lo_zX2_valueOf_s18_l_s21_328 f g q h
    · refine dA_if (fun _ => ?_) (fun _ => ?_)
      · refine dA_G (fun _ => ?_)
        refine dA_G (fun _ => ?_)
        refine dA_G (fun _ => ?_)
        refine dA_L (fun v4 e_1 => ?_)
        refine dA_G (fun _ => ?_)
        refine dA_G (fun _ => ?_)
        refine dA_G (fun _ => ?_)
        refine dA_L (fun v8 e_2 => ?_)
        refine dA_if (fun _ => ?_) (fun _ => ?_)
        · refine dA_if (fun _ => ?_) (fun _ => ?_)
          · exact lo_zX2_valueOf_s18_l_s21_98 f g k32 hk32 q x1 x5 x6 x7 x8 (v4 &&& 15 : Int32) (v8 >>> ((4 : Int32) &&& 31) : Int32) 1 h
          · exact lo_zX2_valueOf_s18_l_s21_98 f g k32 hk32 q x1 x5 x6 x7 x8 (v4 &&& 15 : Int32) (v8 >>> ((4 : Int32) &&& 31) : Int32) 2 h
        · exact lo_zX2_valueOf_s18_l_s21_98 f g k32 hk32 q x1 x5 x6 x7 x8 (v4 &&& 15 : Int32) (v8 >>> ((4 : Int32) &&& 31) : Int32) 0 h
      · exact lo_zX2_valueOf_s18_l_s21_328 f g q h

theorem lo_zX2_valueOf_s18_l_s21_32 (f g : Nat → Int64) (n : Nat) (q : dK) (x1 : Int32) (x5 : Int32) (x6 : Int32) (x7 : Int32) (x8 : Int32) (h : Lo f g q) : dAll (zX2_valueOf_s18_l_s21_32 n q x1 x5 x6 x7 x8) (fun o => Lo f g o.2) := by
  unfold zX2_valueOf_s18_l_s21_32
  exact dA_fix (fun (a : dK × Int32 × Int32 × Int32 × Int32 × Int32) => Lo f g a.1) (fun k hk a ha => lo_zX2_valueOf_s18_l_s21_32b f g  _ (fun q x1 x5 x6 x7 x8 hq => hk (q, x1, x5, x6, x7, x8) hq) a.1 a.2.1 a.2.2.1 a.2.2.2.1 a.2.2.2.2.1 a.2.2.2.2.2 ha) n _ h

theorem lo_zX2_valueOf_s18_l_s21 (f g : Nat → Int64) (q : dK) (p1 : Int32) (p2 : Int32) (p3 : Int32) (h : Lo f g q) : dAll (zX2_valueOf_s18_l_s21 q p1 p2 p3) (fun o => Lo f g o.2) := by
  unfold zX2_valueOf_s18_l_s21
  simp only [txC_r, txL_r, txN_r, txK_r, txR_r]
  refine dA_L (fun q1 e_1 => ?_)
  have hq1 : Lo f g q1 := by rw [e_1]; exact h
  refine dA_L (fun q2 e_2 => ?_)
  have hq2 : Lo f g q2 := by rw [e_2]; exact hq1
  refine dA_G (fun _ => ?_)
  refine dA_G (fun _ => ?_)
  exact lo_zX2_valueOf_s18_l_s21_32 f g dF q2 p1 0 p2 (mnI p3 (Int32.ofNat (Int32.toNatClampNeg (txK q2 p1)))) p2 hq2

theorem lo_zX1_anyHolds_s20_74 (f g : Nat → Int64) (k11 : dK → Int32 → Int32 → Option (Int32 × dK)) (hk11 : ∀ (y0 : dK) (y1 : Int32) (y2 : Int32), Lo f g y0 → dAll (k11 y0 y1 y2) (fun o => Lo f g o.2)) (q : dK) (x1 : Int32) (x2 : Int32) (h : Lo f g q) : dAll (zX1_anyHolds_s20_74 k11 q x1 x2) (fun o => Lo f g o.2) := by
  unfold zX1_anyHolds_s20_74
  exact hk11 q x1 (x2 + 1) h

theorem lo_zX1_anyHolds_s20_11b (f g : Nat → Int64) (k11 : dK → Int32 → Int32 → Option (Int32 × dK)) (hk11 : ∀ (y0 : dK) (y1 : Int32) (y2 : Int32), Lo f g y0 → dAll (k11 y0 y1 y2) (fun o => Lo f g o.2)) (q : dK) (x1 : Int32) (x2 : Int32) (h : Lo f g q) : dAll (zX1_anyHolds_s20_11b k11 q x1 x2) (fun o => Lo f g o.2) := by
  unfold zX1_anyHolds_s20_11b
  simp only [txC_r, txL_r, txN_r, txK_r, txR_r]
  refine dA_G (fun _ => ?_)
  refine dA_G (fun _ => ?_)
  refine dA_if (fun _ => ?_) (fun _ => ?_)
  · exact dA_some h
  · refine dA_G (fun _ => ?_)
    refine dA_G (fun _ => ?_)
    refine dA_G (fun _ => ?_)
    refine dA_G (fun _ => ?_)
    refine dA_L (fun v7 e_1 => ?_)
    refine dA_if (fun _ => ?_) (fun _ => ?_)
    · refine dA_G (fun _ => ?_)
      refine dA_G (fun _ => ?_)
      refine dA_G (fun _ => ?_)
      refine dA_G (fun _ => ?_)
      refine dA_G (fun _ => ?_)
      refine dA_L (fun v13 e_2 => ?_)
      refine dA_G (fun _ => ?_)
      refine dA_G (fun _ => ?_)
      refine dA_G (fun _ => ?_)
      refine dA_G (fun _ => ?_)
      refine dA_L (fun v18 e_3 => ?_)
      refine dA_B (lo_zX2_valueOf_s18_l_s21 f g q (q.1 20 2) v13 v18 h) (fun r19 q21 hq21 => ?_)
      refine dA_if (fun _ => ?_) (fun _ => ?_)
      · exact dA_some hq21
      · exact lo_zX1_anyHolds_s20_74 f g k11 hk11 q21 x1 x2 hq21
    · exact lo_zX1_anyHolds_s20_74 f g k11 hk11 q x1 x2 h

theorem lo_zX1_anyHolds_s20_11 (f g : Nat → Int64) (n : Nat) (q : dK) (x1 : Int32) (x2 : Int32) (h : Lo f g q) : dAll (zX1_anyHolds_s20_11 n q x1 x2) (fun o => Lo f g o.2) := by
  unfold zX1_anyHolds_s20_11
  exact dA_fix (fun (a : dK × Int32 × Int32) => Lo f g a.1) (fun k hk a ha => lo_zX1_anyHolds_s20_11b f g  _ (fun q x1 x2 hq => hk (q, x1, x2) hq) a.1 a.2.1 a.2.2 ha) n _ h

theorem lo_zX1_anyHolds_s20 (f g : Nat → Int64) (q : dK) (p1 : Int32) (h : Lo f g q) : dAll (zX1_anyHolds_s20 q p1) (fun o => Lo f g o.2) := by
  unfold zX1_anyHolds_s20
  refine dA_if (fun _ => ?_) (fun _ => ?_)
  · exact dA_some h
  · exact lo_zX1_anyHolds_s20_11 f g dF q p1 0 h

theorem lo_zX1_tips_s20_s2 (f g : Nat → Int64) (q : dK) (p2 : Int32) (h : Lo f g q) : dAll (zX1_tips_s20_s2 q p2) (fun o => Lo f g o.2) := by
  unfold zX1_tips_s20_s2
  refine dA_B (lo_zX8_isFloor_s2 f g q p2 h) (fun r1 q3 hq3 => ?_)
  refine dA_if (fun _ => ?_) (fun _ => ?_)
  · exact dA_some hq3
  · refine dA_V (lo_zX1_setCommon_s20 f g q3 (q3.1 2 2) (q3.1 2 4) hq3) (fun q6 hq6 => ?_)
    refine dA_L (fun q7 e_1 => ?_)
    have hq7 : Lo f g q7 := by rw [e_1]; exact hq6
    refine dA_L (fun q8 e_2 => ?_)
    have hq8 : Lo f g q8 := by rw [e_2]; exact hq7
    refine dA_L (fun q9 e_3 => ?_)
    have hq9 : Lo f g q9 := by rw [e_3]; exact hq8
    refine dA_G (fun _ => ?_)
    refine dA_L (fun v11 e_4 => ?_)
    refine dA_L (fun q12 e_5 => ?_)
    have hq12 : Lo f g q12 := by rw [e_5]; exact hq9
    refine dA_G (fun _ => ?_)
    refine dA_L (fun v14 e_6 => ?_)
    refine dA_L (fun q15 e_7 => ?_)
    have hq15 : Lo f g q15 := by rw [e_7]; exact hq12
    refine dA_L (fun q16 e_8 => ?_)
    have hq16 : Lo f g q16 := by rw [e_8]; exact hq15
    refine dA_B (lo_zX1_anyHolds_s20 f g q16 2 hq16) (fun r17 q19 hq19 => ?_)
    refine dA_G (fun _ => ?_)
    exact dA_some hq19

theorem lo_zX9_at_s0_41 (f g : Nat → Int64) (q : dK) (y0 : Int32) (h : Lo f g q) : dAll (zX9_at_s0_41 q y0) (fun o => Lo f g o.2) := by
  unfold zX9_at_s0_41
  exact dA_some h

theorem lo_zX9_at_s0 (f g : Nat → Int64) (q : dK) (p1 : Int32) (p2 : Int32) (h : Lo f g q) : dAll (zX9_at_s0 q p1 p2) (fun o => Lo f g o.2) := by
  unfold zX9_at_s0
  refine dA_if (fun _ => ?_) (fun _ => ?_)
  · refine dA_B (lo_zX8_isFloor_s2 f g q p1 h) (fun r4 q6 hq6 => ?_)
    refine dA_if (fun _ => ?_) (fun _ => ?_)
    · exact lo_zX9_at_s0_41 f g q6 (-1) hq6
    · refine dA_V (lo_zX9_seated_s0 f g q6 hq6) (fun q9 hq9 => ?_)
      refine dA_B (lo_zX1_tips_s20_s2 f g q9 p1 hq9) (fun r10 q12 hq12 => ?_)
      refine dA_V dA_tr (fun r13 _ => ?_)
      exact lo_zX9_at_s0_41 f g q12 r13 hq12
  · refine dA_B (lo_zX8_tell_s2 f g q p1 p2 h) (fun r1 q3 hq3 => ?_)
    exact dA_some hq3

theorem lo_zX1_setGrip_s20 (f g : Nat → Int64) (q : dK) (p1 : Int32) (p2 : Int32) (p3 : Int32) (p4 : Int32) (h : Lo f g q) : dAll (zX1_setGrip_s20 q p1 p2 p3 p4) (fun o => Lo f g o) := by
  unfold zX1_setGrip_s20
  refine dA_L (fun q1 e_1 => ?_)
  have hq1 : Lo f g q1 := by rw [e_1]; exact h
  refine dA_L (fun q2 e_2 => ?_)
  have hq2 : Lo f g q2 := by rw [e_2]; exact hq1
  refine dA_L (fun q3 e_3 => ?_)
  have hq3 : Lo f g q3 := by rw [e_3]; exact hq2
  refine dA_L (fun q4 e_4 => ?_)
  have hq4 : Lo f g q4 := by rw [e_4]; exact hq3
  refine dA_L (fun q5 e_5 => ?_)
  have hq5 : Lo f g q5 := by rw [e_5]; exact hq4
  refine dA_L (fun q6 e_6 => ?_)
  have hq6 : Lo f g q6 := by rw [e_6]; exact hq5
  exact dA_some hq6

theorem lo_zX1_setTurn_s20_s2 (f g : Nat → Int64) (q : dK) (p2 : Int32) (h : Lo f g q) : dAll (zX1_setTurn_s20_s2 q p2) (fun o => Lo f g o) := by
  unfold zX1_setTurn_s20_s2
  refine dA_V (lo_zX1_setCommon_s20 f g q (q.1 2 2) (q.1 2 4) h) (fun q3 hq3 => ?_)
  refine dA_B (lo_zX8_tell_s2 f g q3 0 0 hq3) (fun r4 q6 hq6 => ?_)
  refine dA_B (lo_zX8_tell_s2 f g q6 p2 0 hq6) (fun r7 q9 hq9 => ?_)
  refine dA_B (lo_zX8_tell_s2 f g q9 0 1 hq9) (fun r10 q12 hq12 => ?_)
  refine dA_V (lo_zX1_setGrip_s20 f g q12 p2 r4 r7 r10 hq12) (fun q15 hq15 => ?_)
  exact dA_some hq15

theorem lo_zX1_bars_s20_s2 (f g : Nat → Int64) (q : dK) (p2 : Int32) (h : Lo f g q) : dAll (zX1_bars_s20_s2 q p2) (fun o => Lo f g o.2) := by
  unfold zX1_bars_s20_s2
  refine dA_V (lo_zX1_setTurn_s20_s2 f g q p2 h) (fun q3 hq3 => ?_)
  refine dA_B (lo_zX1_anyHolds_s20 f g q3 1 hq3) (fun r4 q6 hq6 => ?_)
  refine dA_G (fun _ => ?_)
  exact dA_some hq6

theorem lo_zX1_pay_s20_132 (f g : Nat → Int64) (k24 : dK → Int32 → Option (Int32 × dK)) (hk24 : ∀ (y0 : dK) (y1 : Int32), Lo f g y0 → dAll (k24 y0 y1) (fun o => Lo f g o.2)) (q : dK) (x1 : Int32) (h : Lo f g q) : dAll (zX1_pay_s20_132 k24 q x1) (fun o => Lo f g o.2) := by
  unfold zX1_pay_s20_132
  exact hk24 q (x1 + (-1)) h

theorem lo_zX1_pay_s20_24b (f g : Nat → Int64) (k24 : dK → Int32 → Option (Int32 × dK)) (hk24 : ∀ (y0 : dK) (y1 : Int32), Lo f g y0 → dAll (k24 y0 y1) (fun o => Lo f g o.2)) (q : dK) (x1 : Int32) (h : Lo f g q) : dAll (zX1_pay_s20_24b k24 q x1) (fun o => Lo f g o.2) := by
  unfold zX1_pay_s20_24b
  simp only [txC_r, txL_r, txN_r, txK_r, txR_r]
  refine dA_if (fun _ => ?_) (fun _ => ?_)
  · exact dA_some h
  · refine dA_G (fun _ => ?_)
    refine dA_G (fun _ => ?_)
    refine dA_G (fun _ => ?_)
    refine dA_G (fun _ => ?_)
    refine dA_L (fun v5 e_1 => ?_)
    refine dA_if (fun _ => ?_) (fun _ => ?_)
    · refine dA_G (fun _ => ?_)
      refine dA_G (fun _ => ?_)
      refine dA_G (fun _ => ?_)
      refine dA_G (fun _ => ?_)
      refine dA_G (fun _ => ?_)
      refine dA_L (fun v11 e_2 => ?_)
      refine dA_G (fun _ => ?_)
      refine dA_G (fun _ => ?_)
      refine dA_G (fun _ => ?_)
      refine dA_G (fun _ => ?_)
      refine dA_L (fun v16 e_3 => ?_)
      refine dA_B (lo_zX2_valueOf_s18_l_s21 f g q (q.1 20 2) v11 v16 h) (fun r17 q19 hq19 => ?_)
      refine dA_if (fun _ => ?_) (fun _ => ?_)
      · refine dA_G (fun _ => ?_)
        refine dA_G (fun _ => ?_)
        refine dA_G (fun _ => ?_)
        refine dA_G (fun _ => ?_)
        refine dA_G (fun _ => ?_)
        refine dA_L (fun v25 e_4 => ?_)
        refine dA_G (fun _ => ?_)
        refine dA_G (fun _ => ?_)
        refine dA_G (fun _ => ?_)
        refine dA_G (fun _ => ?_)
        refine dA_L (fun v30 e_5 => ?_)
        refine dA_B (lo_zX2_valueOf_s18_l_s21 f g q19 (q19.1 20 2) v25 v30 hq19) (fun r31 q33 hq33 => ?_)
        refine dA_if (fun _ => ?_) (fun _ => ?_)
        · exact dA_some hq33
        · exact lo_zX1_pay_s20_132 f g k24 hk24 q33 x1 hq33
      · exact lo_zX1_pay_s20_132 f g k24 hk24 q19 x1 hq19
    · exact lo_zX1_pay_s20_132 f g k24 hk24 q x1 h

theorem lo_zX1_pay_s20_24 (f g : Nat → Int64) (n : Nat) (q : dK) (x1 : Int32) (h : Lo f g q) : dAll (zX1_pay_s20_24 n q x1) (fun o => Lo f g o.2) := by
  unfold zX1_pay_s20_24
  exact dA_fix (fun (a : dK × Int32) => Lo f g a.1) (fun k hk a ha => lo_zX1_pay_s20_24b f g  _ (fun q x1 hq => hk (q, x1) hq) a.1 a.2 ha) n _ h

theorem lo_zX1_pay_s20 (f g : Nat → Int64) (q : dK) (h : Lo f g q) : dAll (zX1_pay_s20 q) (fun o => Lo f g o.2) := by
  unfold zX1_pay_s20
  simp only [txC_r, txL_r, txN_r, txK_r, txR_r]
  refine dA_if (fun _ => ?_) (fun _ => ?_)
  · exact dA_some h
  · refine dA_G (fun _ => ?_)
    refine dA_G (fun _ => ?_)
    exact lo_zX1_pay_s20_24 f g dF q (((txC q (q.1 20 2))) - 1 : Int32) h

theorem lo_zX1_payOf_s20_s2 (f g : Nat → Int64) (q : dK) (p2 : Int32) (h : Lo f g q) : dAll (zX1_payOf_s20_s2 q p2) (fun o => Lo f g o.2) := by
  unfold zX1_payOf_s20_s2
  refine dA_V (lo_zX1_setTurn_s20_s2 f g q p2 h) (fun q3 hq3 => ?_)
  refine dA_B (lo_zX1_pay_s20 f g q3 hq3) (fun r4 q6 hq6 => ?_)
  exact dA_some hq6

theorem lo_zX9_asks_s0_68 (f g : Nat → Int64) (q : dK) (y0 : Int32) (h : Lo f g q) : dAll (zX9_asks_s0_68 q y0) (fun o => Lo f g o.2) := by
  unfold zX9_asks_s0_68
  exact dA_some h

theorem lo_zX9_asks_s0_19 (f g : Nat → Int64) (q : dK) (h : Lo f g q) : dAll (zX9_asks_s0_19 q) (fun o => Lo f g o.2) := by
  unfold zX9_asks_s0_19
  exact dA_some h

theorem lo_zX9_asks_s0 (f g : Nat → Int64) (q : dK) (p1 : Int32) (p2 : Int32) (h : Lo f g q) : dAll (zX9_asks_s0 q p1 p2) (fun o => Lo f g o.2) := by
  unfold zX9_asks_s0
  refine dA_if (fun _ => ?_) (fun _ => ?_)
  · exact lo_zX9_asks_s0_19 f g q h
  · refine dA_if (fun _ => ?_) (fun _ => ?_)
    · refine dA_if (fun _ => ?_) (fun _ => ?_)
      · refine dA_V (lo_zX9_seated_s0 f g q h) (fun q11 hq11 => ?_)
        refine dA_B (lo_zX1_payOf_s20_s2 f g q11 p1 hq11) (fun r12 q14 hq14 => ?_)
        exact dA_some hq14
      · refine dA_if (fun _ => ?_) (fun _ => ?_)
        · refine dA_V (lo_zX9_seated_s0 f g q h) (fun q3 hq3 => ?_)
          refine dA_B (lo_zX1_bars_s20_s2 f g q3 p1 hq3) (fun r4 q6 hq6 => ?_)
          refine dA_V dA_tr (fun r7 _ => ?_)
          exact lo_zX9_asks_s0_68 f g q6 r7 hq6
        · exact lo_zX9_asks_s0_68 f g q (-1) h
    · exact lo_zX9_asks_s0_19 f g q h

theorem lo_zX6_term_s1 (f g : Nat → Int64) (q : dK) (p1 : Int32) (h : Lo f g q) : dAll (zX6_term_s1 q p1) (fun o => Lo f g o.2) := by
  unfold zX6_term_s1
  refine dA_if (fun _ => ?_) (fun _ => ?_)
  · exact dA_some h
  · refine dA_if (fun _ => ?_) (fun _ => ?_)
    · exact dA_some h
    · refine dA_if (fun _ => ?_) (fun _ => ?_)
      · exact dA_some h
      · refine dA_if (fun _ => ?_) (fun _ => ?_)
        · exact dA_some h
        · exact dA_some h

theorem lo_zX6_setTerm_s1_67 (f g : Nat → Int64) (q : dK) (h : Lo f g q) : dAll (zX6_setTerm_s1_67 q) (fun o => Lo f g o) := by
  unfold zX6_setTerm_s1_67
  exact dA_some h

theorem lo_zX6_setTerm_s1 (f g : Nat → Int64) (q : dK) (p1 : Int32) (p2 : Int32) (h : Lo f g q) : dAll (zX6_setTerm_s1 q p1 p2) (fun o => Lo f g o) := by
  unfold zX6_setTerm_s1
  refine dA_if (fun _ => ?_) (fun _ => ?_)
  · refine dA_L (fun q2 e_1 => ?_)
    have hq2 : Lo f g q2 := by rw [e_1]; exact h
    exact lo_zX6_setTerm_s1_67 f g q2 hq2
  · refine dA_if (fun _ => ?_) (fun _ => ?_)
    · refine dA_L (fun q4 e_2 => ?_)
      have hq4 : Lo f g q4 := by rw [e_2]; exact h
      exact lo_zX6_setTerm_s1_67 f g q4 hq4
    · refine dA_if (fun _ => ?_) (fun _ => ?_)
      · refine dA_L (fun q6 e_3 => ?_)
        have hq6 : Lo f g q6 := by rw [e_3]; exact h
        exact lo_zX6_setTerm_s1_67 f g q6 hq6
      · refine dA_if (fun _ => ?_) (fun _ => ?_)
        · refine dA_L (fun q8 e_4 => ?_)
          have hq8 : Lo f g q8 := by rw [e_4]; exact h
          exact lo_zX6_setTerm_s1_67 f g q8 hq8
        · exact lo_zX6_setTerm_s1_67 f g q h

theorem lo_zX9_terms_s0_12 (f g : Nat → Int64) (q : dK) (h : Lo f g q) : dAll (zX9_terms_s0_12 q) (fun o => Lo f g o.2) := by
  unfold zX9_terms_s0_12
  refine dA_B (lo_zX9_refuse_s0 f g q (-1) h) (fun r1 q3 hq3 => ?_)
  exact dA_some hq3

theorem lo_zX9_terms_s0 (f g : Nat → Int64) (q : dK) (p1 : Int32) (p2 : Int32) (h : Lo f g q) : dAll (zX9_terms_s0 q p1 p2) (fun o => Lo f g o.2) := by
  unfold zX9_terms_s0
  refine dA_if (fun _ => ?_) (fun _ => ?_)
  · exact lo_zX9_terms_s0_12 f g q h
  · refine dA_V dA_tr (fun r1 _ => ?_)
    refine dA_if (fun _ => ?_) (fun _ => ?_)
    · refine dA_B (lo_zX6_term_s1 f g q p1 h) (fun r3 q5 hq5 => ?_)
      refine dA_V (lo_zX6_setTerm_s1 f g q5 p1 p2 hq5) (fun q8 hq8 => ?_)
      refine dA_V (lo_zX0_clear_s10 f g q8 hq8) (fun q11 hq11 => ?_)
      refine dA_B (lo_zX9_accept_s0 f g q11 r3 hq11) (fun r12 q14 hq14 => ?_)
      exact dA_some hq14
    · exact lo_zX9_terms_s0_12 f g q h

theorem lo_zX9_feedFour_s0_43 (f g : Nat → Int64) (k3 : dK → Int32 → Int32 → Option (dK)) (hk3 : ∀ (y0 : dK) (y1 : Int32) (y2 : Int32), Lo f g y0 → dAll (k3 y0 y1 y2) (fun o => Lo f g o)) (q : dK) (x1 : Int32) (x2 : Int32) (h : Lo f g q) : dAll (zX9_feedFour_s0_43 k3 q x1 x2) (fun o => Lo f g o) := by
  unfold zX9_feedFour_s0_43
  exact hk3 q x1 (x2 + (-8)) h

theorem lo_zX9_feedFour_s0_3b (f g : Nat → Int64) (k3 : dK → Int32 → Int32 → Option (dK)) (hk3 : ∀ (y0 : dK) (y1 : Int32) (y2 : Int32), Lo f g y0 → dAll (k3 y0 y1 y2) (fun o => Lo f g o)) (q : dK) (x1 : Int32) (x2 : Int32) (h : Lo f g q) : dAll (zX9_feedFour_s0_3b k3 q x1 x2) (fun o => Lo f g o) := by
  unfold zX9_feedFour_s0_3b
  refine dA_if (fun _ => ?_) (fun _ => ?_)
  · exact dA_some h
  · refine dA_if (fun _ => ?_) (fun _ => ?_)
    · exact lo_zX9_feedFour_s0_43 f g k3 hk3 q x1 x2 h
    · refine dA_L (fun v1 e_1 => ?_)
      refine dA_G (fun _ => ?_)
      refine dA_L (fun q3 e_2 => ?_)
      have hq3 : Lo f g q3 := by rw [e_2]; exact h
      refine dA_L (fun q4 e_3 => ?_)
      have hq4 : Lo f g q4 := by rw [e_3]; exact hq3
      exact lo_zX9_feedFour_s0_43 f g k3 hk3 q4 x1 x2 hq4

theorem lo_zX9_feedFour_s0_3 (f g : Nat → Int64) (n : Nat) (q : dK) (x1 : Int32) (x2 : Int32) (h : Lo f g q) : dAll (zX9_feedFour_s0_3 n q x1 x2) (fun o => Lo f g o) := by
  unfold zX9_feedFour_s0_3
  exact dA_fix (fun (a : dK × Int32 × Int32) => Lo f g a.1) (fun k hk a ha => lo_zX9_feedFour_s0_3b f g  _ (fun q x1 x2 hq => hk (q, x1, x2) hq) a.1 a.2.1 a.2.2 ha) n _ h

theorem lo_zX9_feedFour_s0 (f g : Nat → Int64) (q : dK) (p1 : Int32) (h : Lo f g q) : dAll (zX9_feedFour_s0 q p1) (fun o => Lo f g o) := by
  unfold zX9_feedFour_s0
  exact lo_zX9_feedFour_s0_3 f g dF q p1 24 h

theorem lo_zX9_feed_s0 (f g : Nat → Int64) (q : dK) (p1 : Int32) (p2 : Int32) (p3 : Int32) (p4 : Int32) (p5 : Int32) (h : Lo f g q) : dAll (zX9_feed_s0 q p1 p2 p3 p4 p5) (fun o => Lo f g o.2) := by
  unfold zX9_feed_s0
  refine dA_if (fun _ => ?_) (fun _ => ?_)
  · refine dA_V (lo_zX9_feedFour_s0 f g q p1 h) (fun q3 hq3 => ?_)
    refine dA_V (lo_zX9_feedFour_s0 f g q3 p2 hq3) (fun q6 hq6 => ?_)
    refine dA_V (lo_zX9_feedFour_s0 f g q6 p3 hq6) (fun q9 hq9 => ?_)
    refine dA_V (lo_zX9_feedFour_s0 f g q9 p4 hq9) (fun q12 hq12 => ?_)
    refine dA_V (lo_zX9_feedFour_s0 f g q12 p5 hq12) (fun q15 hq15 => ?_)
    exact dA_some hq15
  · exact dA_some h

theorem lo_zX9_end_s0_12 (f g : Nat → Int64) (q : dK) (h : Lo f g q) : dAll (zX9_end_s0_12 q) (fun o => Lo f g o.2) := by
  unfold zX9_end_s0_12
  exact dA_some h

theorem lo_zX9_end_s0 (f g : Nat → Int64) (q : dK) (p1 : Int32) (h : Lo f g q) : dAll (zX9_end_s0 q p1) (fun o => Lo f g o.2) := by
  unfold zX9_end_s0
  refine dA_if (fun _ => ?_) (fun _ => ?_)
  · exact lo_zX9_end_s0_12 f g q h
  · refine dA_if (fun _ => ?_) (fun _ => ?_)
    · refine dA_L (fun q1 e_1 => ?_)
      have hq1 : Lo f g q1 := by rw [e_1]; exact h
      exact dA_some hq1
    · exact lo_zX9_end_s0_12 f g q h

theorem lo_zX9_isNewFloor_s0_33 (f g : Nat → Int64) (q : dK) (y0 : Int32) (h : Lo f g q) : dAll (zX9_isNewFloor_s0_33 q y0) (fun o => Lo f g o.2) := by
  unfold zX9_isNewFloor_s0_33
  refine dA_G (fun _ => ?_)
  exact dA_some h

theorem lo_zX9_isNewFloor_s0_32 (f g : Nat → Int64) (q : dK) (h : Lo f g q) : dAll (zX9_isNewFloor_s0_32 q) (fun o => Lo f g o.2) := by
  unfold zX9_isNewFloor_s0_32
  exact lo_zX9_isNewFloor_s0_33 f g q 0 h

theorem lo_zX9_isNewFloor_s0 (f g : Nat → Int64) (q : dK) (p1 : Int32) (p2 : Int32) (h : Lo f g q) : dAll (zX9_isNewFloor_s0 q p1 p2) (fun o => Lo f g o.2) := by
  unfold zX9_isNewFloor_s0
  refine dA_V dA_tr (fun r1 _ => ?_)
  refine dA_if (fun _ => ?_) (fun _ => ?_)
  · exact lo_zX9_isNewFloor_s0_32 f g q h
  · refine dA_V dA_tr (fun r3 _ => ?_)
    refine dA_if (fun _ => ?_) (fun _ => ?_)
    · exact lo_zX9_isNewFloor_s0_32 f g q h
    · refine dA_B (lo_zX8_has_s2 f g q p1 h) (fun r5 q7 hq7 => ?_)
      refine dA_if (fun _ => ?_) (fun _ => ?_)
      · exact lo_zX9_isNewFloor_s0_33 f g q7 1 hq7
      · exact lo_zX9_isNewFloor_s0_32 f g q7 hq7

theorem lo_zX9_row_s0_95 (f g : Nat → Int64) (k20 : dK → Int32 → Int32 → Int32 → Option (Int32 × dK)) (hk20 : ∀ (y0 : dK) (y1 : Int32) (y2 : Int32) (y3 : Int32), Lo f g y0 → dAll (k20 y0 y1 y2 y3) (fun o => Lo f g o.2)) (q : dK) (x1 : Int32) (x2 : Int32) (x3 : Int32) (h : Lo f g q) : dAll (zX9_row_s0_95 k20 q x1 x2 x3) (fun o => Lo f g o.2) := by
  unfold zX9_row_s0_95
  exact hk20 q x1 x2 (x3 + 2) h

theorem lo_zX9_row_s0_92 (f g : Nat → Int64) (k20 : dK → Int32 → Int32 → Int32 → Option (Int32 × dK)) (hk20 : ∀ (y0 : dK) (y1 : Int32) (y2 : Int32) (y3 : Int32), Lo f g y0 → dAll (k20 y0 y1 y2 y3) (fun o => Lo f g o.2)) (q : dK) (x1 : Int32) (x2 : Int32) (x3 : Int32) (h : Lo f g q) : dAll (zX9_row_s0_92 k20 q x1 x2 x3) (fun o => Lo f g o.2) := by
  unfold zX9_row_s0_92
  exact lo_zX9_row_s0_95 f g k20 hk20 q x1 (x2 + 1) x3 h

theorem lo_zX9_row_s0_20b (f g : Nat → Int64) (k20 : dK → Int32 → Int32 → Int32 → Option (Int32 × dK)) (hk20 : ∀ (y0 : dK) (y1 : Int32) (y2 : Int32) (y3 : Int32), Lo f g y0 → dAll (k20 y0 y1 y2 y3) (fun o => Lo f g o.2)) (q : dK) (x1 : Int32) (x2 : Int32) (x3 : Int32) (h : Lo f g q) : dAll (zX9_row_s0_20b k20 q x1 x2 x3) (fun o => Lo f g o.2) := by
  unfold zX9_row_s0_20b
  refine dA_if (fun _ => ?_) (fun _ => ?_)
  · refine dA_L (fun q1 e_1 => ?_)
    have hq1 : Lo f g q1 := by rw [e_1]; exact h
    refine dA_L (fun q2 e_2 => ?_)
    have hq2 : Lo f g q2 := by rw [e_2]; exact hq1
    refine dA_V (lo_zX0_clear_s10 f g q2 hq2) (fun q5 hq5 => ?_)
    refine dA_B (lo_zX9_accept_s0 f g q5 x1 hq5) (fun r6 q8 hq8 => ?_)
    exact dA_some hq8
  · refine dA_if (fun _ => ?_) (fun _ => ?_)
    · exact lo_zX9_row_s0_92 f g k20 hk20 q x1 x2 x3 h
    · refine dA_G (fun _ => ?_)
      refine dA_L (fun v10 e_3 => ?_)
      refine dA_G (fun _ => ?_)
      refine dA_L (fun v12 e_4 => ?_)
      refine dA_B (lo_zX9_isNewFloor_s0 f g q v10 v12 h) (fun r13 q15 hq15 => ?_)
      refine dA_if (fun _ => ?_) (fun _ => ?_)
      · exact lo_zX9_row_s0_92 f g k20 hk20 q15 x1 x2 x3 hq15
      · refine dA_G (fun _ => ?_)
        refine dA_L (fun v17 e_5 => ?_)
        refine dA_G (fun _ => ?_)
        refine dA_L (fun v19 e_6 => ?_)
        refine dA_B (lo_zX8_add_s2 f g q15 v17 v19 hq15) (fun r20 q22 hq22 => ?_)
        refine dA_if (fun _ => ?_) (fun _ => ?_)
        · exact lo_zX9_row_s0_92 f g k20 hk20 q22 x1 x2 x3 hq22
        · exact lo_zX9_row_s0_95 f g k20 hk20 q22 (x1 + 1) x2 x3 hq22

theorem lo_zX9_row_s0_20 (f g : Nat → Int64) (n : Nat) (q : dK) (x1 : Int32) (x2 : Int32) (x3 : Int32) (h : Lo f g q) : dAll (zX9_row_s0_20 n q x1 x2 x3) (fun o => Lo f g o.2) := by
  unfold zX9_row_s0_20
  exact dA_fix (fun (a : dK × Int32 × Int32 × Int32) => Lo f g a.1) (fun k hk a ha => lo_zX9_row_s0_20b f g  _ (fun q x1 x2 x3 hq => hk (q, x1, x2, x3) hq) a.1 a.2.1 a.2.2.1 a.2.2.2 ha) n _ h

theorem lo_zX9_row_s0 (f g : Nat → Int64) (q : dK) (h : Lo f g q) : dAll (zX9_row_s0 q) (fun o => Lo f g o.2) := by
  unfold zX9_row_s0
  refine dA_if (fun _ => ?_) (fun _ => ?_)
  · refine dA_B (lo_zX9_refuse_s0 f g q (-6) h) (fun r1 q3 hq3 => ?_)
    exact dA_some hq3
  · exact lo_zX9_row_s0_20 f g dF q 0 0 0 h

theorem lo_zX9_bricks_s0 (f g : Nat → Int64) (q : dK) (h : Lo f g q) : dAll (zX9_bricks_s0 q) (fun o => Lo f g o.2) := by
  unfold zX9_bricks_s0
  exact dA_some h

theorem lo_zX7_clear_s25 (f g : Nat → Int64) (q : dK) (h : Lo f g q) : dAll (zX7_clear_s25 q) (fun o => Lo f g o) := by
  unfold zX7_clear_s25
  refine dA_L (fun q1 e_1 => ?_)
  have hq1 : Lo f g q1 := by rw [e_1]; exact h
  refine dA_L (fun q2 e_2 => ?_)
  have hq2 : Lo f g q2 := by rw [e_2]; exact hq1
  exact dA_some hq2

theorem lo_zX4_step_s24_216 (f g : Nat → Int64) (q : dK) (h : Lo f g q) : dAll (zX4_step_s24_216 q) (fun o => Lo f g o) := by
  unfold zX4_step_s24_216
  exact dA_some h

theorem lo_zX4_step_s24_167b (f g : Nat → Int64) (k167 : dK → Int32 → Option (dK)) (hk167 : ∀ (y0 : dK) (y1 : Int32), Lo f g y0 → dAll (k167 y0 y1) (fun o => Lo f g o)) (q : dK) (x1 : Int32) (h : Lo f g q) : dAll (zX4_step_s24_167b k167 q x1) (fun o => Lo f g o) := by
  unfold zX4_step_s24_167b
  refine dA_if (fun _ => ?_) (fun _ => ?_)
  · exact lo_zX4_step_s24_216 f g q h
  · refine dA_if (fun _ => ?_) (fun _ => ?_)
    · refine dA_G (fun _ => ?_)
      refine dA_G (fun _ => ?_)
      refine dA_L (fun v3 e_1 => ?_)
      refine dA_L (fun q4 e_2 => ?_)
      have hq4 : Lo f g q4 := by rw [e_2]; exact h
      exact hk167 q4 (x1 + 1) hq4
    · exact lo_zX4_step_s24_216 f g q h

theorem lo_zX4_step_s24_167 (f g : Nat → Int64) (n : Nat) (q : dK) (x1 : Int32) (h : Lo f g q) : dAll (zX4_step_s24_167 n q x1) (fun o => Lo f g o) := by
  unfold zX4_step_s24_167
  exact dA_fix (fun (a : dK × Int32) => Lo f g a.1) (fun k hk a ha => lo_zX4_step_s24_167b f g  _ (fun q x1 hq => hk (q, x1) hq) a.1 a.2 ha) n _ h

theorem lo_zX4_step_s24_162 (f g : Nat → Int64) (q : dK) (h : Lo f g q) : dAll (zX4_step_s24_162 q) (fun o => Lo f g o) := by
  unfold zX4_step_s24_162
  exact lo_zX4_step_s24_167 f g dF q (q.1 24 5) h

theorem lo_zX4_step_s24_111b (f g : Nat → Int64) (k111 : dK → Option (dK)) (hk111 : ∀ (y0 : dK), Lo f g y0 → dAll (k111 y0) (fun o => Lo f g o)) (q : dK) (h : Lo f g q) : dAll (zX4_step_s24_111b k111 q) (fun o => Lo f g o) := by
  unfold zX4_step_s24_111b
  refine dA_if (fun _ => ?_) (fun _ => ?_)
  · exact lo_zX4_step_s24_162 f g q h
  · refine dA_if (fun _ => ?_) (fun _ => ?_)
    · exact lo_zX4_step_s24_162 f g q h
    · refine dA_G (fun _ => ?_)
      refine dA_G (fun _ => ?_)
      refine dA_L (fun v3 e_1 => ?_)
      refine dA_V dA_tr (fun r4 _ => ?_)
      refine dA_if (fun _ => ?_) (fun _ => ?_)
      · refine dA_L (fun q6 e_2 => ?_)
        have hq6 : Lo f g q6 := by rw [e_2]; exact h
        exact hk111 q6 hq6
      · exact lo_zX4_step_s24_162 f g q h

theorem lo_zX4_step_s24_111 (f g : Nat → Int64) (n : Nat) (q : dK) (h : Lo f g q) : dAll (zX4_step_s24_111 n q) (fun o => Lo f g o) := by
  unfold zX4_step_s24_111
  exact dA_fix (fun (a : dK) => Lo f g a) (fun k hk a ha => lo_zX4_step_s24_111b f g  _ (fun q hq => hk q hq) a ha) n _ h

theorem lo_zX4_step_s24_55 (f g : Nat → Int64) (q : dK) (h : Lo f g q) : dAll (zX4_step_s24_55 q) (fun o => Lo f g o) := by
  unfold zX4_step_s24_55
  refine dA_L (fun q1 e_1 => ?_)
  have hq1 : Lo f g q1 := by rw [e_1]; exact h
  refine dA_L (fun q2 e_2 => ?_)
  have hq2 : Lo f g q2 := by rw [e_2]; exact hq1
  refine dA_L (fun q3 e_3 => ?_)
  have hq3 : Lo f g q3 := by rw [e_3]; exact hq2
  refine dA_if (fun _ => ?_) (fun _ => ?_)
  · refine dA_G (fun _ => ?_)
    refine dA_G (fun _ => ?_)
    refine dA_L (fun v6 e_4 => ?_)
    refine dA_V dA_tr (fun r7 _ => ?_)
    refine dA_L (fun q9 e_5 => ?_)
    have hq9 : Lo f g q9 := by rw [e_5]; exact hq3
    refine dA_L (fun q10 e_6 => ?_)
    have hq10 : Lo f g q10 := by rw [e_6]; exact hq9
    exact lo_zX4_step_s24_111 f g dF q10 hq10
  · exact dA_some hq3

theorem lo_zX4_step_s24_17b (f g : Nat → Int64) (k17 : dK → Option (dK)) (hk17 : ∀ (y0 : dK), Lo f g y0 → dAll (k17 y0) (fun o => Lo f g o)) (q : dK) (h : Lo f g q) : dAll (zX4_step_s24_17b k17 q) (fun o => Lo f g o) := by
  unfold zX4_step_s24_17b
  refine dA_if (fun _ => ?_) (fun _ => ?_)
  · exact lo_zX4_step_s24_55 f g q h
  · refine dA_G (fun _ => ?_)
    refine dA_G (fun _ => ?_)
    refine dA_L (fun v3 e_1 => ?_)
    refine dA_if (fun _ => ?_) (fun _ => ?_)
    · refine dA_L (fun q4 e_2 => ?_)
      have hq4 : Lo f g q4 := by rw [e_2]; exact h
      exact hk17 q4 hq4
    · exact lo_zX4_step_s24_55 f g q h

theorem lo_zX4_step_s24_17 (f g : Nat → Int64) (n : Nat) (q : dK) (h : Lo f g q) : dAll (zX4_step_s24_17 n q) (fun o => Lo f g o) := by
  unfold zX4_step_s24_17
  exact dA_fix (fun (a : dK) => Lo f g a) (fun k hk a ha => lo_zX4_step_s24_17b f g  _ (fun q hq => hk q hq) a ha) n _ h

theorem lo_zX4_step_s24 (f g : Nat → Int64) (q : dK) (h : Lo f g q) : dAll (zX4_step_s24 q) (fun o => Lo f g o) := by
  unfold zX4_step_s24
  refine dA_if (fun _ => ?_) (fun _ => ?_)
  · refine dA_L (fun q1 e_1 => ?_)
    have hq1 : Lo f g q1 := by rw [e_1]; exact h
    exact lo_zX4_step_s24_17 f g dF q1 hq1
  · exact dA_some h

theorem lo_zX4_isSame_s24_t0_20b (f g : Nat → Int64) (k20 : dK → Int32 → Int32 → Int32 → Option (Int32 × dK)) (hk20 : ∀ (y0 : dK) (y1 : Int32) (y2 : Int32) (y3 : Int32), Lo f g y0 → dAll (k20 y0 y1 y2 y3) (fun o => Lo f g o.2)) (q : dK) (x2 : Int32) (x3 : Int32) (x4 : Int32) (h : Lo f g q) : dAll (zX4_isSame_s24_t0_20b k20 q x2 x3 x4) (fun o => Lo f g o.2) := by
  unfold zX4_isSame_s24_t0_20b
  refine dA_if (fun _ => ?_) (fun _ => ?_)
  · exact dA_some h
  · refine dA_G (fun _ => ?_)
    refine dA_L (fun v2 e_1 => ?_)
    refine dA_G (fun _ => ?_)
    refine dA_G (fun _ => ?_)
    refine dA_L (fun v5 e_2 => ?_)
    refine dA_if (fun _ => ?_) (fun _ => ?_)
    · exact hk20 q x2 x3 (x4 + 1) h
    · exact dA_some h

theorem lo_zX4_isSame_s24_t0_20 (f g : Nat → Int64) (n : Nat) (q : dK) (x2 : Int32) (x3 : Int32) (x4 : Int32) (h : Lo f g q) : dAll (zX4_isSame_s24_t0_20 n q x2 x3 x4) (fun o => Lo f g o.2) := by
  unfold zX4_isSame_s24_t0_20
  exact dA_fix (fun (a : dK × Int32 × Int32 × Int32) => Lo f g a.1) (fun k hk a ha => lo_zX4_isSame_s24_t0_20b f g  _ (fun q x2 x3 x4 hq => hk (q, x2, x3, x4) hq) a.1 a.2.1 a.2.2.1 a.2.2.2 ha) n _ h

theorem lo_zX4_isSame_s24_t0 (f g : Nat → Int64) (q : dK) (p2 : Int32) (p3 : Int32) (h : Lo f g q) : dAll (zX4_isSame_s24_t0 q p2 p3) (fun o => Lo f g o.2) := by
  unfold zX4_isSame_s24_t0
  refine dA_if (fun _ => ?_) (fun _ => ?_)
  · exact lo_zX4_isSame_s24_t0_20 f g dF q p2 p3 p2 h
  · exact dA_some h

theorem lo_zX4_wordIn_s24_t0_62 (f g : Nat → Int64) (q : dK) (h : Lo f g q) : dAll (zX4_wordIn_s24_t0_62 q) (fun o => Lo f g o.2) := by
  unfold zX4_wordIn_s24_t0_62
  exact dA_some h

theorem lo_zX4_wordIn_s24_t0_56 (f g : Nat → Int64) (k7 : dK → Int32 → Int32 → Int32 → Option (Int32 × dK)) (hk7 : ∀ (y0 : dK) (y1 : Int32) (y2 : Int32) (y3 : Int32), Lo f g y0 → dAll (k7 y0 y1 y2 y3) (fun o => Lo f g o.2)) (q : dK) (x2 : Int32) (x3 : Int32) (x4 : Int32) (h : Lo f g q) : dAll (zX4_wordIn_s24_t0_56 k7 q x2 x3 x4) (fun o => Lo f g o.2) := by
  unfold zX4_wordIn_s24_t0_56
  exact hk7 q x2 x3 (x4 + 1) h

theorem lo_zX4_wordIn_s24_t0_7b (f g : Nat → Int64) (k7 : dK → Int32 → Int32 → Int32 → Option (Int32 × dK)) (hk7 : ∀ (y0 : dK) (y1 : Int32) (y2 : Int32) (y3 : Int32), Lo f g y0 → dAll (k7 y0 y1 y2 y3) (fun o => Lo f g o.2)) (q : dK) (x2 : Int32) (x3 : Int32) (x4 : Int32) (h : Lo f g q) : dAll (zX4_wordIn_s24_t0_7b k7 q x2 x3 x4) (fun o => Lo f g o.2) := by
  unfold zX4_wordIn_s24_t0_7b
  refine dA_if (fun _ => ?_) (fun _ => ?_)
  · exact lo_zX4_wordIn_s24_t0_62 f g q h
  · refine dA_if (fun _ => ?_) (fun _ => ?_)
    · refine dA_G (fun _ => ?_)
      refine dA_L (fun v2 e_1 => ?_)
      refine dA_if (fun _ => ?_) (fun _ => ?_)
      · refine dA_B (lo_zX4_isSame_s24_t0 f g q x3 x4 h) (fun r3 q5 hq5 => ?_)
        refine dA_if (fun _ => ?_) (fun _ => ?_)
        · exact lo_zX4_wordIn_s24_t0_56 f g k7 hk7 q5 (x2 + 1) (x4 + 1 : Int32) x4 hq5
        · exact dA_some hq5
      · exact lo_zX4_wordIn_s24_t0_56 f g k7 hk7 q x2 x3 x4 h
    · exact lo_zX4_wordIn_s24_t0_62 f g q h

theorem lo_zX4_wordIn_s24_t0_7 (f g : Nat → Int64) (n : Nat) (q : dK) (x2 : Int32) (x3 : Int32) (x4 : Int32) (h : Lo f g q) : dAll (zX4_wordIn_s24_t0_7 n q x2 x3 x4) (fun o => Lo f g o.2) := by
  unfold zX4_wordIn_s24_t0_7
  exact dA_fix (fun (a : dK × Int32 × Int32 × Int32) => Lo f g a.1) (fun k hk a ha => lo_zX4_wordIn_s24_t0_7b f g  _ (fun q x2 x3 x4 hq => hk (q, x2, x3, x4) hq) a.1 a.2.1 a.2.2.1 a.2.2.2 ha) n _ h

theorem lo_zX4_wordIn_s24_t0 (f g : Nat → Int64) (q : dK) (h : Lo f g q) : dAll (zX4_wordIn_s24_t0 q) (fun o => Lo f g o.2) := by
  unfold zX4_wordIn_s24_t0
  exact lo_zX4_wordIn_s24_t0_7 f g dF q 0 0 0 h

theorem lo_zX7_beginClause_s25_81 (f g : Nat → Int64) (q : dK) (h : Lo f g q) : dAll (zX7_beginClause_s25_81 q) (fun o => Lo f g o) := by
  unfold zX7_beginClause_s25_81
  exact dA_some h

theorem lo_zX7_beginClause_s25 (f g : Nat → Int64) (q : dK) (p1 : Int32) (h : Lo f g q) : dAll (zX7_beginClause_s25 q p1) (fun o => Lo f g o) := by
  unfold zX7_beginClause_s25
  refine dA_if (fun _ => ?_) (fun _ => ?_)
  · exact lo_zX7_beginClause_s25_81 f g q h
  · refine dA_G (fun _ => ?_)
    refine dA_L (fun q2 e_1 => ?_)
    have hq2 : Lo f g q2 := by rw [e_1]; exact h
    refine dA_G (fun _ => ?_)
    refine dA_L (fun q4 e_2 => ?_)
    have hq4 : Lo f g q4 := by rw [e_2]; exact hq2
    refine dA_G (fun _ => ?_)
    refine dA_L (fun q6 e_3 => ?_)
    have hq6 : Lo f g q6 := by rw [e_3]; exact hq4
    refine dA_G (fun _ => ?_)
    refine dA_L (fun q8 e_4 => ?_)
    have hq8 : Lo f g q8 := by rw [e_4]; exact hq6
    refine dA_G (fun _ => ?_)
    refine dA_L (fun q10 e_5 => ?_)
    have hq10 : Lo f g q10 := by rw [e_5]; exact hq8
    refine dA_L (fun q11 e_6 => ?_)
    have hq11 : Lo f g q11 := by rw [e_6]; exact hq10
    exact lo_zX7_beginClause_s25_81 f g q11 hq11

theorem lo_zX4_fail_s24_16 (f g : Nat → Int64) (q : dK) (h : Lo f g q) : dAll (zX4_fail_s24_16 q) (fun o => Lo f g o) := by
  unfold zX4_fail_s24_16
  exact dA_some h

theorem lo_zX4_fail_s24 (f g : Nat → Int64) (q : dK) (h : Lo f g q) : dAll (zX4_fail_s24 q) (fun o => Lo f g o) := by
  unfold zX4_fail_s24
  refine dA_if (fun _ => ?_) (fun _ => ?_)
  · refine dA_L (fun q1 e_1 => ?_)
    have hq1 : Lo f g q1 := by rw [e_1]; exact h
    exact lo_zX4_fail_s24_16 f g q1 hq1
  · exact lo_zX4_fail_s24_16 f g q h

theorem lo_zX4_isSame_s24_t1_20b (f g : Nat → Int64) (k20 : dK → Int32 → Int32 → Int32 → Option (Int32 × dK)) (hk20 : ∀ (y0 : dK) (y1 : Int32) (y2 : Int32) (y3 : Int32), Lo f g y0 → dAll (k20 y0 y1 y2 y3) (fun o => Lo f g o.2)) (q : dK) (x2 : Int32) (x3 : Int32) (x4 : Int32) (h : Lo f g q) : dAll (zX4_isSame_s24_t1_20b k20 q x2 x3 x4) (fun o => Lo f g o.2) := by
  unfold zX4_isSame_s24_t1_20b
  refine dA_if (fun _ => ?_) (fun _ => ?_)
  · exact dA_some h
  · refine dA_G (fun _ => ?_)
    refine dA_L (fun v2 e_1 => ?_)
    refine dA_G (fun _ => ?_)
    refine dA_G (fun _ => ?_)
    refine dA_L (fun v5 e_2 => ?_)
    refine dA_if (fun _ => ?_) (fun _ => ?_)
    · exact hk20 q x2 x3 (x4 + 1) h
    · exact dA_some h

theorem lo_zX4_isSame_s24_t1_20 (f g : Nat → Int64) (n : Nat) (q : dK) (x2 : Int32) (x3 : Int32) (x4 : Int32) (h : Lo f g q) : dAll (zX4_isSame_s24_t1_20 n q x2 x3 x4) (fun o => Lo f g o.2) := by
  unfold zX4_isSame_s24_t1_20
  exact dA_fix (fun (a : dK × Int32 × Int32 × Int32) => Lo f g a.1) (fun k hk a ha => lo_zX4_isSame_s24_t1_20b f g  _ (fun q x2 x3 x4 hq => hk (q, x2, x3, x4) hq) a.1 a.2.1 a.2.2.1 a.2.2.2 ha) n _ h

theorem lo_zX4_isSame_s24_t1 (f g : Nat → Int64) (q : dK) (p2 : Int32) (p3 : Int32) (h : Lo f g q) : dAll (zX4_isSame_s24_t1 q p2 p3) (fun o => Lo f g o.2) := by
  unfold zX4_isSame_s24_t1
  refine dA_if (fun _ => ?_) (fun _ => ?_)
  · exact lo_zX4_isSame_s24_t1_20 f g dF q p2 p3 p2 h
  · exact dA_some h

theorem lo_zX4_wordIn_s24_t1_62 (f g : Nat → Int64) (q : dK) (h : Lo f g q) : dAll (zX4_wordIn_s24_t1_62 q) (fun o => Lo f g o.2) := by
  unfold zX4_wordIn_s24_t1_62
  exact dA_some h

theorem lo_zX4_wordIn_s24_t1_56 (f g : Nat → Int64) (k7 : dK → Int32 → Int32 → Int32 → Option (Int32 × dK)) (hk7 : ∀ (y0 : dK) (y1 : Int32) (y2 : Int32) (y3 : Int32), Lo f g y0 → dAll (k7 y0 y1 y2 y3) (fun o => Lo f g o.2)) (q : dK) (x2 : Int32) (x3 : Int32) (x4 : Int32) (h : Lo f g q) : dAll (zX4_wordIn_s24_t1_56 k7 q x2 x3 x4) (fun o => Lo f g o.2) := by
  unfold zX4_wordIn_s24_t1_56
  exact hk7 q x2 x3 (x4 + 1) h

theorem lo_zX4_wordIn_s24_t1_7b (f g : Nat → Int64) (k7 : dK → Int32 → Int32 → Int32 → Option (Int32 × dK)) (hk7 : ∀ (y0 : dK) (y1 : Int32) (y2 : Int32) (y3 : Int32), Lo f g y0 → dAll (k7 y0 y1 y2 y3) (fun o => Lo f g o.2)) (q : dK) (x2 : Int32) (x3 : Int32) (x4 : Int32) (h : Lo f g q) : dAll (zX4_wordIn_s24_t1_7b k7 q x2 x3 x4) (fun o => Lo f g o.2) := by
  unfold zX4_wordIn_s24_t1_7b
  refine dA_if (fun _ => ?_) (fun _ => ?_)
  · exact lo_zX4_wordIn_s24_t1_62 f g q h
  · refine dA_if (fun _ => ?_) (fun _ => ?_)
    · refine dA_G (fun _ => ?_)
      refine dA_L (fun v2 e_1 => ?_)
      refine dA_if (fun _ => ?_) (fun _ => ?_)
      · refine dA_B (lo_zX4_isSame_s24_t1 f g q x3 x4 h) (fun r3 q5 hq5 => ?_)
        refine dA_if (fun _ => ?_) (fun _ => ?_)
        · exact lo_zX4_wordIn_s24_t1_56 f g k7 hk7 q5 (x2 + 1) (x4 + 1 : Int32) x4 hq5
        · exact dA_some hq5
      · exact lo_zX4_wordIn_s24_t1_56 f g k7 hk7 q x2 x3 x4 h
    · exact lo_zX4_wordIn_s24_t1_62 f g q h

theorem lo_zX4_wordIn_s24_t1_7 (f g : Nat → Int64) (n : Nat) (q : dK) (x2 : Int32) (x3 : Int32) (x4 : Int32) (h : Lo f g q) : dAll (zX4_wordIn_s24_t1_7 n q x2 x3 x4) (fun o => Lo f g o.2) := by
  unfold zX4_wordIn_s24_t1_7
  exact dA_fix (fun (a : dK × Int32 × Int32 × Int32) => Lo f g a.1) (fun k hk a ha => lo_zX4_wordIn_s24_t1_7b f g  _ (fun q x2 x3 x4 hq => hk (q, x2, x3, x4) hq) a.1 a.2.1 a.2.2.1 a.2.2.2 ha) n _ h

theorem lo_zX4_wordIn_s24_t1 (f g : Nat → Int64) (q : dK) (h : Lo f g q) : dAll (zX4_wordIn_s24_t1 q) (fun o => Lo f g o.2) := by
  unfold zX4_wordIn_s24_t1
  exact lo_zX4_wordIn_s24_t1_7 f g dF q 0 0 0 h

theorem lo_zX4_isSign_s24_37 (f g : Nat → Int64) (q : dK) (y0 : Int32) (h : Lo f g q) : dAll (zX4_isSign_s24_37 q y0) (fun o => Lo f g o.2) := by
  unfold zX4_isSign_s24_37
  refine dA_G (fun _ => ?_)
  exact dA_some h

theorem lo_zX4_isSign_s24_36 (f g : Nat → Int64) (q : dK) (h : Lo f g q) : dAll (zX4_isSign_s24_36 q) (fun o => Lo f g o.2) := by
  unfold zX4_isSign_s24_36
  exact lo_zX4_isSign_s24_37 f g q 0 h

theorem lo_zX4_isSign_s24 (f g : Nat → Int64) (q : dK) (p1 : Int32) (h : Lo f g q) : dAll (zX4_isSign_s24 q p1) (fun o => Lo f g o.2) := by
  unfold zX4_isSign_s24
  refine dA_if (fun _ => ?_) (fun _ => ?_)
  · refine dA_if (fun _ => ?_) (fun _ => ?_)
    · exact lo_zX4_isSign_s24_36 f g q h
    · refine dA_G (fun _ => ?_)
      refine dA_G (fun _ => ?_)
      refine dA_L (fun v3 e_1 => ?_)
      refine dA_if (fun _ => ?_) (fun _ => ?_)
      · exact lo_zX4_isSign_s24_37 f g q 1 h
      · exact lo_zX4_isSign_s24_36 f g q h
  · exact lo_zX4_isSign_s24_36 f g q h

theorem lo_zX4_isSame_s24_t2_20b (f g : Nat → Int64) (k20 : dK → Int32 → Int32 → Int32 → Option (Int32 × dK)) (hk20 : ∀ (y0 : dK) (y1 : Int32) (y2 : Int32) (y3 : Int32), Lo f g y0 → dAll (k20 y0 y1 y2 y3) (fun o => Lo f g o.2)) (q : dK) (x2 : Int32) (x3 : Int32) (x4 : Int32) (h : Lo f g q) : dAll (zX4_isSame_s24_t2_20b k20 q x2 x3 x4) (fun o => Lo f g o.2) := by
  unfold zX4_isSame_s24_t2_20b
  refine dA_if (fun _ => ?_) (fun _ => ?_)
  · exact dA_some h
  · refine dA_G (fun _ => ?_)
    refine dA_L (fun v2 e_1 => ?_)
    refine dA_G (fun _ => ?_)
    refine dA_G (fun _ => ?_)
    refine dA_L (fun v5 e_2 => ?_)
    refine dA_if (fun _ => ?_) (fun _ => ?_)
    · exact hk20 q x2 x3 (x4 + 1) h
    · exact dA_some h

theorem lo_zX4_isSame_s24_t2_20 (f g : Nat → Int64) (n : Nat) (q : dK) (x2 : Int32) (x3 : Int32) (x4 : Int32) (h : Lo f g q) : dAll (zX4_isSame_s24_t2_20 n q x2 x3 x4) (fun o => Lo f g o.2) := by
  unfold zX4_isSame_s24_t2_20
  exact dA_fix (fun (a : dK × Int32 × Int32 × Int32) => Lo f g a.1) (fun k hk a ha => lo_zX4_isSame_s24_t2_20b f g  _ (fun q x2 x3 x4 hq => hk (q, x2, x3, x4) hq) a.1 a.2.1 a.2.2.1 a.2.2.2 ha) n _ h

theorem lo_zX4_isSame_s24_t2 (f g : Nat → Int64) (q : dK) (p2 : Int32) (p3 : Int32) (h : Lo f g q) : dAll (zX4_isSame_s24_t2 q p2 p3) (fun o => Lo f g o.2) := by
  unfold zX4_isSame_s24_t2
  refine dA_if (fun _ => ?_) (fun _ => ?_)
  · exact lo_zX4_isSame_s24_t2_20 f g dF q p2 p3 p2 h
  · exact dA_some h

theorem lo_zX4_wordIn_s24_t2_62 (f g : Nat → Int64) (q : dK) (h : Lo f g q) : dAll (zX4_wordIn_s24_t2_62 q) (fun o => Lo f g o.2) := by
  unfold zX4_wordIn_s24_t2_62
  exact dA_some h

theorem lo_zX4_wordIn_s24_t2_56 (f g : Nat → Int64) (k7 : dK → Int32 → Int32 → Int32 → Option (Int32 × dK)) (hk7 : ∀ (y0 : dK) (y1 : Int32) (y2 : Int32) (y3 : Int32), Lo f g y0 → dAll (k7 y0 y1 y2 y3) (fun o => Lo f g o.2)) (q : dK) (x2 : Int32) (x3 : Int32) (x4 : Int32) (h : Lo f g q) : dAll (zX4_wordIn_s24_t2_56 k7 q x2 x3 x4) (fun o => Lo f g o.2) := by
  unfold zX4_wordIn_s24_t2_56
  exact hk7 q x2 x3 (x4 + 1) h

theorem lo_zX4_wordIn_s24_t2_7b (f g : Nat → Int64) (k7 : dK → Int32 → Int32 → Int32 → Option (Int32 × dK)) (hk7 : ∀ (y0 : dK) (y1 : Int32) (y2 : Int32) (y3 : Int32), Lo f g y0 → dAll (k7 y0 y1 y2 y3) (fun o => Lo f g o.2)) (q : dK) (x2 : Int32) (x3 : Int32) (x4 : Int32) (h : Lo f g q) : dAll (zX4_wordIn_s24_t2_7b k7 q x2 x3 x4) (fun o => Lo f g o.2) := by
  unfold zX4_wordIn_s24_t2_7b
  refine dA_if (fun _ => ?_) (fun _ => ?_)
  · exact lo_zX4_wordIn_s24_t2_62 f g q h
  · refine dA_if (fun _ => ?_) (fun _ => ?_)
    · refine dA_G (fun _ => ?_)
      refine dA_L (fun v2 e_1 => ?_)
      refine dA_if (fun _ => ?_) (fun _ => ?_)
      · refine dA_B (lo_zX4_isSame_s24_t2 f g q x3 x4 h) (fun r3 q5 hq5 => ?_)
        refine dA_if (fun _ => ?_) (fun _ => ?_)
        · exact lo_zX4_wordIn_s24_t2_56 f g k7 hk7 q5 (x2 + 1) (x4 + 1 : Int32) x4 hq5
        · exact dA_some hq5
      · exact lo_zX4_wordIn_s24_t2_56 f g k7 hk7 q x2 x3 x4 h
    · exact lo_zX4_wordIn_s24_t2_62 f g q h

theorem lo_zX4_wordIn_s24_t2_7 (f g : Nat → Int64) (n : Nat) (q : dK) (x2 : Int32) (x3 : Int32) (x4 : Int32) (h : Lo f g q) : dAll (zX4_wordIn_s24_t2_7 n q x2 x3 x4) (fun o => Lo f g o.2) := by
  unfold zX4_wordIn_s24_t2_7
  exact dA_fix (fun (a : dK × Int32 × Int32 × Int32) => Lo f g a.1) (fun k hk a ha => lo_zX4_wordIn_s24_t2_7b f g  _ (fun q x2 x3 x4 hq => hk (q, x2, x3, x4) hq) a.1 a.2.1 a.2.2.1 a.2.2.2 ha) n _ h

theorem lo_zX4_wordIn_s24_t2 (f g : Nat → Int64) (q : dK) (h : Lo f g q) : dAll (zX4_wordIn_s24_t2 q) (fun o => Lo f g o.2) := by
  unfold zX4_wordIn_s24_t2
  exact lo_zX4_wordIn_s24_t2_7 f g dF q 0 0 0 h

theorem lo_zX4_openBracket_s24 (f g : Nat → Int64) (q : dK) (h : Lo f g q) : dAll (zX4_openBracket_s24 q) (fun o => Lo f g o.2) := by
  unfold zX4_openBracket_s24
  refine dA_if (fun _ => ?_) (fun _ => ?_)
  · refine dA_L (fun q1 e_1 => ?_)
    have hq1 : Lo f g q1 := by rw [e_1]; exact h
    refine dA_V (lo_zX4_step_s24 f g q1 hq1) (fun q4 hq4 => ?_)
    exact dA_some hq4
  · refine dA_V (lo_zX4_fail_s24 f g q h) (fun q7 hq7 => ?_)
    exact dA_some hq7

theorem lo_zX4_expectSign_s24_19 (f g : Nat → Int64) (q : dK) (h : Lo f g q) : dAll (zX4_expectSign_s24_19 q) (fun o => Lo f g o) := by
  unfold zX4_expectSign_s24_19
  exact dA_some h

theorem lo_zX4_expectSign_s24 (f g : Nat → Int64) (q : dK) (p1 : Int32) (h : Lo f g q) : dAll (zX4_expectSign_s24 q p1) (fun o => Lo f g o) := by
  unfold zX4_expectSign_s24
  refine dA_B (lo_zX4_isSign_s24 f g q p1 h) (fun r1 q3 hq3 => ?_)
  refine dA_if (fun _ => ?_) (fun _ => ?_)
  · refine dA_V (lo_zX4_fail_s24 f g q3 hq3) (fun q6 hq6 => ?_)
    exact lo_zX4_expectSign_s24_19 f g q6 hq6
  · refine dA_V (lo_zX4_step_s24 f g q3 hq3) (fun q9 hq9 => ?_)
    exact lo_zX4_expectSign_s24_19 f g q9 hq9

theorem lo_zX4_isSame_s24_t3_20b (f g : Nat → Int64) (k20 : dK → Int32 → Int32 → Int32 → Option (Int32 × dK)) (hk20 : ∀ (y0 : dK) (y1 : Int32) (y2 : Int32) (y3 : Int32), Lo f g y0 → dAll (k20 y0 y1 y2 y3) (fun o => Lo f g o.2)) (q : dK) (x2 : Int32) (x3 : Int32) (x4 : Int32) (h : Lo f g q) : dAll (zX4_isSame_s24_t3_20b k20 q x2 x3 x4) (fun o => Lo f g o.2) := by
  unfold zX4_isSame_s24_t3_20b
  refine dA_if (fun _ => ?_) (fun _ => ?_)
  · exact dA_some h
  · refine dA_G (fun _ => ?_)
    refine dA_L (fun v2 e_1 => ?_)
    refine dA_G (fun _ => ?_)
    refine dA_G (fun _ => ?_)
    refine dA_L (fun v5 e_2 => ?_)
    refine dA_if (fun _ => ?_) (fun _ => ?_)
    · exact hk20 q x2 x3 (x4 + 1) h
    · exact dA_some h

theorem lo_zX4_isSame_s24_t3_20 (f g : Nat → Int64) (n : Nat) (q : dK) (x2 : Int32) (x3 : Int32) (x4 : Int32) (h : Lo f g q) : dAll (zX4_isSame_s24_t3_20 n q x2 x3 x4) (fun o => Lo f g o.2) := by
  unfold zX4_isSame_s24_t3_20
  exact dA_fix (fun (a : dK × Int32 × Int32 × Int32) => Lo f g a.1) (fun k hk a ha => lo_zX4_isSame_s24_t3_20b f g  _ (fun q x2 x3 x4 hq => hk (q, x2, x3, x4) hq) a.1 a.2.1 a.2.2.1 a.2.2.2 ha) n _ h

theorem lo_zX4_isSame_s24_t3 (f g : Nat → Int64) (q : dK) (p2 : Int32) (p3 : Int32) (h : Lo f g q) : dAll (zX4_isSame_s24_t3 q p2 p3) (fun o => Lo f g o.2) := by
  unfold zX4_isSame_s24_t3
  refine dA_if (fun _ => ?_) (fun _ => ?_)
  · exact lo_zX4_isSame_s24_t3_20 f g dF q p2 p3 p2 h
  · exact dA_some h

theorem lo_zX4_wordIn_s24_t3_62 (f g : Nat → Int64) (q : dK) (h : Lo f g q) : dAll (zX4_wordIn_s24_t3_62 q) (fun o => Lo f g o.2) := by
  unfold zX4_wordIn_s24_t3_62
  exact dA_some h

theorem lo_zX4_wordIn_s24_t3_56 (f g : Nat → Int64) (k7 : dK → Int32 → Int32 → Int32 → Option (Int32 × dK)) (hk7 : ∀ (y0 : dK) (y1 : Int32) (y2 : Int32) (y3 : Int32), Lo f g y0 → dAll (k7 y0 y1 y2 y3) (fun o => Lo f g o.2)) (q : dK) (x2 : Int32) (x3 : Int32) (x4 : Int32) (h : Lo f g q) : dAll (zX4_wordIn_s24_t3_56 k7 q x2 x3 x4) (fun o => Lo f g o.2) := by
  unfold zX4_wordIn_s24_t3_56
  exact hk7 q x2 x3 (x4 + 1) h

theorem lo_zX4_wordIn_s24_t3_7b (f g : Nat → Int64) (k7 : dK → Int32 → Int32 → Int32 → Option (Int32 × dK)) (hk7 : ∀ (y0 : dK) (y1 : Int32) (y2 : Int32) (y3 : Int32), Lo f g y0 → dAll (k7 y0 y1 y2 y3) (fun o => Lo f g o.2)) (q : dK) (x2 : Int32) (x3 : Int32) (x4 : Int32) (h : Lo f g q) : dAll (zX4_wordIn_s24_t3_7b k7 q x2 x3 x4) (fun o => Lo f g o.2) := by
  unfold zX4_wordIn_s24_t3_7b
  refine dA_if (fun _ => ?_) (fun _ => ?_)
  · exact lo_zX4_wordIn_s24_t3_62 f g q h
  · refine dA_if (fun _ => ?_) (fun _ => ?_)
    · refine dA_G (fun _ => ?_)
      refine dA_L (fun v2 e_1 => ?_)
      refine dA_if (fun _ => ?_) (fun _ => ?_)
      · refine dA_B (lo_zX4_isSame_s24_t3 f g q x3 x4 h) (fun r3 q5 hq5 => ?_)
        refine dA_if (fun _ => ?_) (fun _ => ?_)
        · exact lo_zX4_wordIn_s24_t3_56 f g k7 hk7 q5 (x2 + 1) (x4 + 1 : Int32) x4 hq5
        · exact dA_some hq5
      · exact lo_zX4_wordIn_s24_t3_56 f g k7 hk7 q x2 x3 x4 h
    · exact lo_zX4_wordIn_s24_t3_62 f g q h

theorem lo_zX4_wordIn_s24_t3_7 (f g : Nat → Int64) (n : Nat) (q : dK) (x2 : Int32) (x3 : Int32) (x4 : Int32) (h : Lo f g q) : dAll (zX4_wordIn_s24_t3_7 n q x2 x3 x4) (fun o => Lo f g o.2) := by
  unfold zX4_wordIn_s24_t3_7
  exact dA_fix (fun (a : dK × Int32 × Int32 × Int32) => Lo f g a.1) (fun k hk a ha => lo_zX4_wordIn_s24_t3_7b f g  _ (fun q x2 x3 x4 hq => hk (q, x2, x3, x4) hq) a.1 a.2.1 a.2.2.1 a.2.2.2 ha) n _ h

theorem lo_zX4_wordIn_s24_t3 (f g : Nat → Int64) (q : dK) (h : Lo f g q) : dAll (zX4_wordIn_s24_t3 q) (fun o => Lo f g o.2) := by
  unfold zX4_wordIn_s24_t3
  exact lo_zX4_wordIn_s24_t3_7 f g dF q 0 0 0 h

theorem lo_zX7_emit_s25_36 (f g : Nat → Int64) (q : dK) (h : Lo f g q) : dAll (zX7_emit_s25_36 q) (fun o => Lo f g o) := by
  unfold zX7_emit_s25_36
  exact dA_some h

theorem lo_zX7_emit_s25 (f g : Nat → Int64) (q : dK) (p1 : Int32) (p2 : Int32) (h : Lo f g q) : dAll (zX7_emit_s25 q p1 p2) (fun o => Lo f g o) := by
  unfold zX7_emit_s25
  refine dA_if (fun _ => ?_) (fun _ => ?_)
  · exact lo_zX7_emit_s25_36 f g q h
  · refine dA_G (fun _ => ?_)
    refine dA_L (fun q2 e_1 => ?_)
    have hq2 : Lo f g q2 := by rw [e_1]; exact h
    refine dA_L (fun q3 e_2 => ?_)
    have hq3 : Lo f g q3 := by rw [e_2]; exact hq2
    exact lo_zX7_emit_s25_36 f g q3 hq3

theorem lo_zX4_readPlace_s24_17 (f g : Nat → Int64) (q : dK) (h : Lo f g q) : dAll (zX4_readPlace_s24_17 q) (fun o => Lo f g o) := by
  unfold zX4_readPlace_s24_17
  refine dA_V (lo_zX4_fail_s24 f g q h) (fun q3 hq3 => ?_)
  exact dA_some hq3

theorem lo_zX4_readPlace_s24 (f g : Nat → Int64) (q : dK) (p1 : Int32) (h : Lo f g q) : dAll (zX4_readPlace_s24 q p1) (fun o => Lo f g o) := by
  unfold zX4_readPlace_s24
  refine dA_if (fun _ => ?_) (fun _ => ?_)
  · refine dA_if (fun _ => ?_) (fun _ => ?_)
    · refine dA_G (fun _ => ?_)
      refine dA_V (lo_zX7_emit_s25 f g q 1 (p1 + (q.1 24 7)) h) (fun q4 hq4 => ?_)
      refine dA_V (lo_zX4_step_s24 f g q4 hq4) (fun q7 hq7 => ?_)
      exact dA_some hq7
    · exact lo_zX4_readPlace_s24_17 f g q h
  · exact lo_zX4_readPlace_s24_17 f g q h

theorem lo_zX4_readPart_s24_177 (f g : Nat → Int64) (kS : dK → Option (dK)) (hkS : ∀ (y0 : dK), Lo f g y0 → dAll (kS y0) (fun o => Lo f g o)) (q : dK) (h : Lo f g q) : dAll (zX4_readPart_s24_177 kS q) (fun o => Lo f g o) := by
  unfold zX4_readPart_s24_177
  exact dA_some h

theorem lo_zX4_readPart_s24_168 (f g : Nat → Int64) (kS : dK → Option (dK)) (hkS : ∀ (y0 : dK), Lo f g y0 → dAll (kS y0) (fun o => Lo f g o)) (q : dK) (x1 : Int32) (h : Lo f g q) : dAll (zX4_readPart_s24_168 kS q x1) (fun o => Lo f g o) := by
  unfold zX4_readPart_s24_168
  refine dA_G (fun _ => ?_)
  refine dA_V (lo_zX7_emit_s25 f g q 1 x1 h) (fun q4 hq4 => ?_)
  exact lo_zX4_readPart_s24_177 f g kS hkS q4 hq4

theorem lo_zX4_readPart_s24_162 (f g : Nat → Int64) (kS : dK → Option (dK)) (hkS : ∀ (y0 : dK), Lo f g y0 → dAll (kS y0) (fun o => Lo f g o)) (q : dK) (y0 : Int32) (h : Lo f g q) : dAll (zX4_readPart_s24_162 kS q y0) (fun o => Lo f g o) := by
  unfold zX4_readPart_s24_162
  refine dA_V (lo_zX4_readPlace_s24 f g q y0 h) (fun q3 hq3 => ?_)
  exact lo_zX4_readPart_s24_177 f g kS hkS q3 hq3

theorem lo_zX4_readPart_s24_98 (f g : Nat → Int64) (kS : dK → Option (dK)) (hkS : ∀ (y0 : dK), Lo f g y0 → dAll (kS y0) (fun o => Lo f g o)) (q : dK) (h : Lo f g q) : dAll (zX4_readPart_s24_98 kS q) (fun o => Lo f g o) := by
  unfold zX4_readPart_s24_98
  refine dA_V (lo_zX4_fail_s24 f g q h) (fun q3 hq3 => ?_)
  exact dA_some hq3

theorem lo_zX4_readPart_s24_89 (f g : Nat → Int64) (kS : dK → Option (dK)) (hkS : ∀ (y0 : dK), Lo f g y0 → dAll (kS y0) (fun o => Lo f g o)) (q : dK) (x1 : Int32) (x2 : Int32) (h : Lo f g q) : dAll (zX4_readPart_s24_89 kS q x1 x2) (fun o => Lo f g o) := by
  unfold zX4_readPart_s24_89
  refine dA_if (fun _ => ?_) (fun _ => ?_)
  · refine dA_L (fun q1 e_1 => ?_)
    have hq1 : Lo f g q1 := by rw [e_1]; exact h
    refine dA_V (lo_zX4_step_s24 f g q1 hq1) (fun q4 hq4 => ?_)
    refine dA_if (fun _ => ?_) (fun _ => ?_)
    · refine dA_if (fun _ => ?_) (fun _ => ?_)
      · exact lo_zX4_readPart_s24_168 f g kS hkS q4 x1 hq4
      · refine dA_if (fun _ => ?_) (fun _ => ?_)
        · exact lo_zX4_readPart_s24_168 f g kS hkS q4 x1 hq4
        · refine dA_if (fun _ => ?_) (fun _ => ?_)
          · exact lo_zX4_readPart_s24_162 f g kS hkS q4 5 hq4
          · exact lo_zX4_readPart_s24_162 f g kS hkS q4 11 hq4
    · refine dA_G (fun _ => ?_)
      refine dA_V (lo_zX7_emit_s25 f g q4 0 (q1.1 24 7) hq4) (fun q8 hq8 => ?_)
      exact lo_zX4_readPart_s24_177 f g kS hkS q8 hq8
  · exact lo_zX4_readPart_s24_98 f g kS hkS q h

theorem lo_zX4_readPart_s24_79 (f g : Nat → Int64) (kS : dK → Option (dK)) (hkS : ∀ (y0 : dK), Lo f g y0 → dAll (kS y0) (fun o => Lo f g o)) (q : dK) (x1 : Int32) (y0 : Int32) (h : Lo f g q) : dAll (zX4_readPart_s24_79 kS q x1 y0) (fun o => Lo f g o) := by
  unfold zX4_readPart_s24_79
  refine dA_if (fun _ => ?_) (fun _ => ?_)
  · refine dA_if (fun _ => ?_) (fun _ => ?_)
    · exact lo_zX4_readPart_s24_98 f g kS hkS q h
    · exact lo_zX4_readPart_s24_89 f g kS hkS q x1 y0 h
  · exact lo_zX4_readPart_s24_89 f g kS hkS q x1 y0 h

theorem lo_zX4_readPart_s24_78 (f g : Nat → Int64) (kS : dK → Option (dK)) (hkS : ∀ (y0 : dK), Lo f g y0 → dAll (kS y0) (fun o => Lo f g o)) (q : dK) (x1 : Int32) (h : Lo f g q) : dAll (zX4_readPart_s24_78 kS q x1) (fun o => Lo f g o) := by
  unfold zX4_readPart_s24_78
  exact lo_zX4_readPart_s24_79 f g kS hkS q x1 0 h

theorem lo_zX4_readPart_s24_52 (f g : Nat → Int64) (kS : dK → Option (dK)) (hkS : ∀ (y0 : dK), Lo f g y0 → dAll (kS y0) (fun o => Lo f g o)) (q : dK) (h : Lo f g q) : dAll (zX4_readPart_s24_52 kS q) (fun o => Lo f g o) := by
  unfold zX4_readPart_s24_52
  refine dA_B (lo_zX4_wordIn_s24_t3 f g q h) (fun r1 q3 hq3 => ?_)
  refine dA_if (fun _ => ?_) (fun _ => ?_)
  · refine dA_if (fun _ => ?_) (fun _ => ?_)
    · exact lo_zX4_readPart_s24_78 f g kS hkS q3 r1 hq3
    · exact lo_zX4_readPart_s24_79 f g kS hkS q3 r1 1 hq3
  · exact lo_zX4_readPart_s24_78 f g kS hkS q3 r1 hq3

theorem lo_zX4_readPart_s24_36 (f g : Nat → Int64) (kS : dK → Option (dK)) (hkS : ∀ (y0 : dK), Lo f g y0 → dAll (kS y0) (fun o => Lo f g o)) (q : dK) (h : Lo f g q) : dAll (zX4_readPart_s24_36 kS q) (fun o => Lo f g o) := by
  unfold zX4_readPart_s24_36
  exact dA_some h

theorem lo_zX4_readPart_s24 (f g : Nat → Int64) (kS : dK → Option (dK)) (hkS : ∀ (y0 : dK), Lo f g y0 → dAll (kS y0) (fun o => Lo f g o)) (q : dK) (h : Lo f g q) : dAll (zX4_readPart_s24 kS q) (fun o => Lo f g o) := by
  unfold zX4_readPart_s24
  refine dA_B (lo_zX4_isSign_s24 f g q 91 h) (fun r1 q3 hq3 => ?_)
  refine dA_if (fun _ => ?_) (fun _ => ?_)
  · refine dA_if (fun _ => ?_) (fun _ => ?_)
    · exact lo_zX4_readPart_s24_52 f g kS hkS q3 hq3
    · refine dA_B (lo_zX4_wordIn_s24_t2 f g q3 hq3) (fun r4 q6 hq6 => ?_)
      refine dA_if (fun _ => ?_) (fun _ => ?_)
      · refine dA_if (fun _ => ?_) (fun _ => ?_)
        · exact lo_zX4_readPart_s24_78 f g kS hkS q6 r4 hq6
        · exact lo_zX4_readPart_s24_79 f g kS hkS q6 r4 1 hq6
      · exact lo_zX4_readPart_s24_78 f g kS hkS q6 r4 hq6
  · refine dA_B (lo_zX4_openBracket_s24 f g q3 hq3) (fun r7 q9 hq9 => ?_)
    refine dA_if (fun _ => ?_) (fun _ => ?_)
    · exact lo_zX4_readPart_s24_36 f g kS hkS q9 hq9
    · refine dA_V (hkS q9 hq9) (fun q12 hq12 => ?_)
      refine dA_L (fun q13 e_1 => ?_)
      have hq13 : Lo f g q13 := by rw [e_1]; exact hq12
      refine dA_V (lo_zX4_expectSign_s24 f g q13 93 hq13) (fun q16 hq16 => ?_)
      exact lo_zX4_readPart_s24_36 f g kS hkS q16 hq16

theorem lo_zX4_signIn_s24_t4_2b (f g : Nat → Int64) (k2 : dK → Int32 → Int32 → Option (Int32 × dK)) (hk2 : ∀ (y0 : dK) (y1 : Int32) (y2 : Int32), Lo f g y0 → dAll (k2 y0 y1 y2) (fun o => Lo f g o.2)) (q : dK) (x2 : Int32) (x3 : Int32) (h : Lo f g q) : dAll (zX4_signIn_s24_t4_2b k2 q x2 x3) (fun o => Lo f g o.2) := by
  unfold zX4_signIn_s24_t4_2b
  refine dA_if (fun _ => ?_) (fun _ => ?_)
  · exact dA_some h
  · refine dA_G (fun _ => ?_)
    refine dA_L (fun v2 e_1 => ?_)
    refine dA_B (lo_zX4_isSign_s24 f g q v2 h) (fun r3 q5 hq5 => ?_)
    refine dA_if (fun _ => ?_) (fun _ => ?_)
    · exact hk2 q5 x2 (x3 + 1) hq5
    · exact dA_some hq5

theorem lo_zX4_signIn_s24_t4_2 (f g : Nat → Int64) (n : Nat) (q : dK) (x2 : Int32) (x3 : Int32) (h : Lo f g q) : dAll (zX4_signIn_s24_t4_2 n q x2 x3) (fun o => Lo f g o.2) := by
  unfold zX4_signIn_s24_t4_2
  exact dA_fix (fun (a : dK × Int32 × Int32) => Lo f g a.1) (fun k hk a ha => lo_zX4_signIn_s24_t4_2b f g  _ (fun q x2 x3 hq => hk (q, x2, x3) hq) a.1 a.2.1 a.2.2 ha) n _ h

theorem lo_zX4_signIn_s24_t4 (f g : Nat → Int64) (q : dK) (p2 : Int32) (h : Lo f g q) : dAll (zX4_signIn_s24_t4 q p2) (fun o => Lo f g o.2) := by
  unfold zX4_signIn_s24_t4
  exact lo_zX4_signIn_s24_t4_2 f g dF q p2 0 h

theorem lo_zX4_readTerm_s24_59 (f g : Nat → Int64) (kS : dK → Option (dK)) (hkS : ∀ (y0 : dK), Lo f g y0 → dAll (kS y0) (fun o => Lo f g o)) (q : dK) (h : Lo f g q) : dAll (zX4_readTerm_s24_59 kS q) (fun o => Lo f g o) := by
  unfold zX4_readTerm_s24_59
  exact dA_some h

theorem lo_zX4_readTerm_s24_6b (f g : Nat → Int64) (kS : dK → Option (dK)) (hkS : ∀ (y0 : dK), Lo f g y0 → dAll (kS y0) (fun o => Lo f g o)) (k6 : dK → Int32 → Option (dK)) (hk6 : ∀ (y0 : dK) (y1 : Int32), Lo f g y0 → dAll (k6 y0 y1) (fun o => Lo f g o)) (q : dK) (x1 : Int32) (h : Lo f g q) : dAll (zX4_readTerm_s24_6b kS k6 q x1) (fun o => Lo f g o) := by
  unfold zX4_readTerm_s24_6b
  refine dA_if (fun _ => ?_) (fun _ => ?_)
  · exact lo_zX4_readTerm_s24_59 f g kS hkS q h
  · refine dA_if (fun _ => ?_) (fun _ => ?_)
    · refine dA_B (lo_zX4_signIn_s24_t4 f g q 4 h) (fun r1 q3 hq3 => ?_)
      refine dA_if (fun _ => ?_) (fun _ => ?_)
      · exact dA_some hq3
      · refine dA_V (lo_zX4_step_s24 f g q3 hq3) (fun q6 hq6 => ?_)
        refine dA_V (lo_zX4_readPart_s24 f g kS hkS q6 hq6) (fun q9 hq9 => ?_)
        refine dA_G (fun _ => ?_)
        refine dA_V (lo_zX7_emit_s25 f g q9 r1 0 hq9) (fun q13 hq13 => ?_)
        exact hk6 q13 (x1 + 1) hq13
    · exact lo_zX4_readTerm_s24_59 f g kS hkS q h

theorem lo_zX4_readTerm_s24_6 (f g : Nat → Int64) (kS : dK → Option (dK)) (hkS : ∀ (y0 : dK), Lo f g y0 → dAll (kS y0) (fun o => Lo f g o)) (n : Nat) (q : dK) (x1 : Int32) (h : Lo f g q) : dAll (zX4_readTerm_s24_6 kS n q x1) (fun o => Lo f g o) := by
  unfold zX4_readTerm_s24_6
  exact dA_fix (fun (a : dK × Int32) => Lo f g a.1) (fun k hk a ha => lo_zX4_readTerm_s24_6b f g kS hkS _ (fun q x1 hq => hk (q, x1) hq) a.1 a.2 ha) n _ h

theorem lo_zX4_readTerm_s24 (f g : Nat → Int64) (kS : dK → Option (dK)) (hkS : ∀ (y0 : dK), Lo f g y0 → dAll (kS y0) (fun o => Lo f g o)) (q : dK) (h : Lo f g q) : dAll (zX4_readTerm_s24 kS q) (fun o => Lo f g o) := by
  unfold zX4_readTerm_s24
  refine dA_V (lo_zX4_readPart_s24 f g kS hkS q h) (fun q3 hq3 => ?_)
  exact lo_zX4_readTerm_s24_6 f g kS hkS dF q3 0 hq3

theorem lo_zX4_signIn_s24_t5_2b (f g : Nat → Int64) (k2 : dK → Int32 → Int32 → Option (Int32 × dK)) (hk2 : ∀ (y0 : dK) (y1 : Int32) (y2 : Int32), Lo f g y0 → dAll (k2 y0 y1 y2) (fun o => Lo f g o.2)) (q : dK) (x2 : Int32) (x3 : Int32) (h : Lo f g q) : dAll (zX4_signIn_s24_t5_2b k2 q x2 x3) (fun o => Lo f g o.2) := by
  unfold zX4_signIn_s24_t5_2b
  refine dA_if (fun _ => ?_) (fun _ => ?_)
  · exact dA_some h
  · refine dA_G (fun _ => ?_)
    refine dA_L (fun v2 e_1 => ?_)
    refine dA_B (lo_zX4_isSign_s24 f g q v2 h) (fun r3 q5 hq5 => ?_)
    refine dA_if (fun _ => ?_) (fun _ => ?_)
    · exact hk2 q5 x2 (x3 + 1) hq5
    · exact dA_some hq5

theorem lo_zX4_signIn_s24_t5_2 (f g : Nat → Int64) (n : Nat) (q : dK) (x2 : Int32) (x3 : Int32) (h : Lo f g q) : dAll (zX4_signIn_s24_t5_2 n q x2 x3) (fun o => Lo f g o.2) := by
  unfold zX4_signIn_s24_t5_2
  exact dA_fix (fun (a : dK × Int32 × Int32) => Lo f g a.1) (fun k hk a ha => lo_zX4_signIn_s24_t5_2b f g  _ (fun q x2 x3 hq => hk (q, x2, x3) hq) a.1 a.2.1 a.2.2 ha) n _ h

theorem lo_zX4_signIn_s24_t5 (f g : Nat → Int64) (q : dK) (p2 : Int32) (h : Lo f g q) : dAll (zX4_signIn_s24_t5 q p2) (fun o => Lo f g o.2) := by
  unfold zX4_signIn_s24_t5
  exact lo_zX4_signIn_s24_t5_2 f g dF q p2 0 h

theorem lo_zX4_readSum_s24_59 (f g : Nat → Int64) (kS : dK → Option (dK)) (hkS : ∀ (y0 : dK), Lo f g y0 → dAll (kS y0) (fun o => Lo f g o)) (q : dK) (h : Lo f g q) : dAll (zX4_readSum_s24_59 kS q) (fun o => Lo f g o) := by
  unfold zX4_readSum_s24_59
  exact dA_some h

theorem lo_zX4_readSum_s24_6b (f g : Nat → Int64) (kS : dK → Option (dK)) (hkS : ∀ (y0 : dK), Lo f g y0 → dAll (kS y0) (fun o => Lo f g o)) (k6 : dK → Int32 → Option (dK)) (hk6 : ∀ (y0 : dK) (y1 : Int32), Lo f g y0 → dAll (k6 y0 y1) (fun o => Lo f g o)) (q : dK) (x1 : Int32) (h : Lo f g q) : dAll (zX4_readSum_s24_6b kS k6 q x1) (fun o => Lo f g o) := by
  unfold zX4_readSum_s24_6b
  refine dA_if (fun _ => ?_) (fun _ => ?_)
  · exact lo_zX4_readSum_s24_59 f g kS hkS q h
  · refine dA_if (fun _ => ?_) (fun _ => ?_)
    · refine dA_B (lo_zX4_signIn_s24_t5 f g q 2 h) (fun r1 q3 hq3 => ?_)
      refine dA_if (fun _ => ?_) (fun _ => ?_)
      · exact dA_some hq3
      · refine dA_V (lo_zX4_step_s24 f g q3 hq3) (fun q6 hq6 => ?_)
        refine dA_V (lo_zX4_readTerm_s24 f g kS hkS q6 hq6) (fun q9 hq9 => ?_)
        refine dA_G (fun _ => ?_)
        refine dA_V (lo_zX7_emit_s25 f g q9 r1 0 hq9) (fun q13 hq13 => ?_)
        exact hk6 q13 (x1 + 1) hq13
    · exact lo_zX4_readSum_s24_59 f g kS hkS q h

theorem lo_zX4_readSum_s24_6 (f g : Nat → Int64) (kS : dK → Option (dK)) (hkS : ∀ (y0 : dK), Lo f g y0 → dAll (kS y0) (fun o => Lo f g o)) (n : Nat) (q : dK) (x1 : Int32) (h : Lo f g q) : dAll (zX4_readSum_s24_6 kS n q x1) (fun o => Lo f g o) := by
  unfold zX4_readSum_s24_6
  exact dA_fix (fun (a : dK × Int32) => Lo f g a.1) (fun k hk a ha => lo_zX4_readSum_s24_6b f g kS hkS _ (fun q x1 hq => hk (q, x1) hq) a.1 a.2 ha) n _ h

theorem lo_zX4_readSum_s24_o (f g : Nat → Int64) (kS : dK → Option (dK)) (hkS : ∀ (y0 : dK), Lo f g y0 → dAll (kS y0) (fun o => Lo f g o)) (q : dK) (h : Lo f g q) : dAll (zX4_readSum_s24_o kS q) (fun o => Lo f g o) := by
  unfold zX4_readSum_s24_o
  refine dA_V (lo_zX4_readTerm_s24 f g kS hkS q h) (fun q3 hq3 => ?_)
  exact lo_zX4_readSum_s24_6 f g kS hkS dF q3 0 hq3

theorem lo_zX4_readSum_s24 (f g : Nat → Int64) (n : Nat) : ∀ (q : dK) (h : Lo f g q), dAll (zX4_readSum_s24 n q) (fun o => Lo f g o) := by
  induction n with
  | zero => intro q h o e; cases e
  | succ n ih => intro q h; exact lo_zX4_readSum_s24_o f g (zX4_readSum_s24 n) ih q h

theorem lo_zX7_endSum_s25_37 (f g : Nat → Int64) (q : dK) (h : Lo f g q) : dAll (zX7_endSum_s25_37 q) (fun o => Lo f g o) := by
  unfold zX7_endSum_s25_37
  exact dA_some h

theorem lo_zX7_endSum_s25 (f g : Nat → Int64) (q : dK) (h : Lo f g q) : dAll (zX7_endSum_s25 q) (fun o => Lo f g o) := by
  unfold zX7_endSum_s25
  refine dA_if (fun _ => ?_) (fun _ => ?_)
  · exact lo_zX7_endSum_s25_37 f g q h
  · refine dA_G (fun _ => ?_)
    refine dA_L (fun q2 e_1 => ?_)
    have hq2 : Lo f g q2 := by rw [e_1]; exact h
    refine dA_G (fun _ => ?_)
    refine dA_L (fun q4 e_2 => ?_)
    have hq4 : Lo f g q4 := by rw [e_2]; exact hq2
    exact lo_zX7_endSum_s25_37 f g q4 hq4

theorem lo_zX4_isSame_s24_t6_20b (f g : Nat → Int64) (k20 : dK → Int32 → Int32 → Int32 → Option (Int32 × dK)) (hk20 : ∀ (y0 : dK) (y1 : Int32) (y2 : Int32) (y3 : Int32), Lo f g y0 → dAll (k20 y0 y1 y2 y3) (fun o => Lo f g o.2)) (q : dK) (x2 : Int32) (x3 : Int32) (x4 : Int32) (h : Lo f g q) : dAll (zX4_isSame_s24_t6_20b k20 q x2 x3 x4) (fun o => Lo f g o.2) := by
  unfold zX4_isSame_s24_t6_20b
  refine dA_if (fun _ => ?_) (fun _ => ?_)
  · exact dA_some h
  · refine dA_G (fun _ => ?_)
    refine dA_L (fun v2 e_1 => ?_)
    refine dA_G (fun _ => ?_)
    refine dA_G (fun _ => ?_)
    refine dA_L (fun v5 e_2 => ?_)
    refine dA_if (fun _ => ?_) (fun _ => ?_)
    · exact hk20 q x2 x3 (x4 + 1) h
    · exact dA_some h

theorem lo_zX4_isSame_s24_t6_20 (f g : Nat → Int64) (n : Nat) (q : dK) (x2 : Int32) (x3 : Int32) (x4 : Int32) (h : Lo f g q) : dAll (zX4_isSame_s24_t6_20 n q x2 x3 x4) (fun o => Lo f g o.2) := by
  unfold zX4_isSame_s24_t6_20
  exact dA_fix (fun (a : dK × Int32 × Int32 × Int32) => Lo f g a.1) (fun k hk a ha => lo_zX4_isSame_s24_t6_20b f g  _ (fun q x2 x3 x4 hq => hk (q, x2, x3, x4) hq) a.1 a.2.1 a.2.2.1 a.2.2.2 ha) n _ h

theorem lo_zX4_isSame_s24_t6 (f g : Nat → Int64) (q : dK) (p2 : Int32) (p3 : Int32) (h : Lo f g q) : dAll (zX4_isSame_s24_t6 q p2 p3) (fun o => Lo f g o.2) := by
  unfold zX4_isSame_s24_t6
  refine dA_if (fun _ => ?_) (fun _ => ?_)
  · exact lo_zX4_isSame_s24_t6_20 f g dF q p2 p3 p2 h
  · exact dA_some h

theorem lo_zX4_isWord_s24_t6_26 (f g : Nat → Int64) (q : dK) (y0 : Int32) (h : Lo f g q) : dAll (zX4_isWord_s24_t6_26 q y0) (fun o => Lo f g o.2) := by
  unfold zX4_isWord_s24_t6_26
  refine dA_G (fun _ => ?_)
  exact dA_some h

theorem lo_zX4_isWord_s24_t6_25 (f g : Nat → Int64) (q : dK) (h : Lo f g q) : dAll (zX4_isWord_s24_t6_25 q) (fun o => Lo f g o.2) := by
  unfold zX4_isWord_s24_t6_25
  exact lo_zX4_isWord_s24_t6_26 f g q 0 h

theorem lo_zX4_isWord_s24_t6 (f g : Nat → Int64) (q : dK) (h : Lo f g q) : dAll (zX4_isWord_s24_t6 q) (fun o => Lo f g o.2) := by
  unfold zX4_isWord_s24_t6
  refine dA_if (fun _ => ?_) (fun _ => ?_)
  · refine dA_B (lo_zX4_isSame_s24_t6 f g q 0 5 h) (fun r1 q3 hq3 => ?_)
    refine dA_if (fun _ => ?_) (fun _ => ?_)
    · exact lo_zX4_isWord_s24_t6_25 f g q3 hq3
    · exact lo_zX4_isWord_s24_t6_26 f g q3 1 hq3
  · exact lo_zX4_isWord_s24_t6_25 f g q h

theorem lo_zX7_setTimes_s25_19 (f g : Nat → Int64) (q : dK) (h : Lo f g q) : dAll (zX7_setTimes_s25_19 q) (fun o => Lo f g o) := by
  unfold zX7_setTimes_s25_19
  exact dA_some h

theorem lo_zX7_setTimes_s25 (f g : Nat → Int64) (q : dK) (p1 : Int32) (h : Lo f g q) : dAll (zX7_setTimes_s25 q p1) (fun o => Lo f g o) := by
  unfold zX7_setTimes_s25
  refine dA_if (fun _ => ?_) (fun _ => ?_)
  · exact lo_zX7_setTimes_s25_19 f g q h
  · refine dA_G (fun _ => ?_)
    refine dA_L (fun q2 e_1 => ?_)
    have hq2 : Lo f g q2 := by rw [e_1]; exact h
    exact lo_zX7_setTimes_s25_19 f g q2 hq2

theorem lo_zX4_readTimes_s24_25 (f g : Nat → Int64) (q : dK) (h : Lo f g q) : dAll (zX4_readTimes_s24_25 q) (fun o => Lo f g o) := by
  unfold zX4_readTimes_s24_25
  refine dA_V (lo_zX4_fail_s24 f g q h) (fun q3 hq3 => ?_)
  exact dA_some hq3

theorem lo_zX4_readTimes_s24 (f g : Nat → Int64) (q : dK) (h : Lo f g q) : dAll (zX4_readTimes_s24 q) (fun o => Lo f g o) := by
  unfold zX4_readTimes_s24
  refine dA_if (fun _ => ?_) (fun _ => ?_)
  · refine dA_if (fun _ => ?_) (fun _ => ?_)
    · exact lo_zX4_readTimes_s24_25 f g q h
    · refine dA_if (fun _ => ?_) (fun _ => ?_)
      · refine dA_G (fun _ => ?_)
        refine dA_V (lo_zX7_setTimes_s25 f g q (q.1 24 7) h) (fun q4 hq4 => ?_)
        refine dA_V (lo_zX4_step_s24 f g q4 hq4) (fun q7 hq7 => ?_)
        exact dA_some hq7
      · exact lo_zX4_readTimes_s24_25 f g q h
  · exact lo_zX4_readTimes_s24_25 f g q h

theorem lo_zX4_isSame_s24_t7_20b (f g : Nat → Int64) (k20 : dK → Int32 → Int32 → Int32 → Option (Int32 × dK)) (hk20 : ∀ (y0 : dK) (y1 : Int32) (y2 : Int32) (y3 : Int32), Lo f g y0 → dAll (k20 y0 y1 y2 y3) (fun o => Lo f g o.2)) (q : dK) (x2 : Int32) (x3 : Int32) (x4 : Int32) (h : Lo f g q) : dAll (zX4_isSame_s24_t7_20b k20 q x2 x3 x4) (fun o => Lo f g o.2) := by
  unfold zX4_isSame_s24_t7_20b
  refine dA_if (fun _ => ?_) (fun _ => ?_)
  · exact dA_some h
  · refine dA_G (fun _ => ?_)
    refine dA_L (fun v2 e_1 => ?_)
    refine dA_G (fun _ => ?_)
    refine dA_G (fun _ => ?_)
    refine dA_L (fun v5 e_2 => ?_)
    refine dA_if (fun _ => ?_) (fun _ => ?_)
    · exact hk20 q x2 x3 (x4 + 1) h
    · exact dA_some h

theorem lo_zX4_isSame_s24_t7_20 (f g : Nat → Int64) (n : Nat) (q : dK) (x2 : Int32) (x3 : Int32) (x4 : Int32) (h : Lo f g q) : dAll (zX4_isSame_s24_t7_20 n q x2 x3 x4) (fun o => Lo f g o.2) := by
  unfold zX4_isSame_s24_t7_20
  exact dA_fix (fun (a : dK × Int32 × Int32 × Int32) => Lo f g a.1) (fun k hk a ha => lo_zX4_isSame_s24_t7_20b f g  _ (fun q x2 x3 x4 hq => hk (q, x2, x3, x4) hq) a.1 a.2.1 a.2.2.1 a.2.2.2 ha) n _ h

theorem lo_zX4_isSame_s24_t7 (f g : Nat → Int64) (q : dK) (p2 : Int32) (p3 : Int32) (h : Lo f g q) : dAll (zX4_isSame_s24_t7 q p2 p3) (fun o => Lo f g o.2) := by
  unfold zX4_isSame_s24_t7
  refine dA_if (fun _ => ?_) (fun _ => ?_)
  · exact lo_zX4_isSame_s24_t7_20 f g dF q p2 p3 p2 h
  · exact dA_some h

theorem lo_zX4_isWord_s24_t7_26 (f g : Nat → Int64) (q : dK) (y0 : Int32) (h : Lo f g q) : dAll (zX4_isWord_s24_t7_26 q y0) (fun o => Lo f g o.2) := by
  unfold zX4_isWord_s24_t7_26
  refine dA_G (fun _ => ?_)
  exact dA_some h

theorem lo_zX4_isWord_s24_t7_25 (f g : Nat → Int64) (q : dK) (h : Lo f g q) : dAll (zX4_isWord_s24_t7_25 q) (fun o => Lo f g o.2) := by
  unfold zX4_isWord_s24_t7_25
  exact lo_zX4_isWord_s24_t7_26 f g q 0 h

theorem lo_zX4_isWord_s24_t7 (f g : Nat → Int64) (q : dK) (h : Lo f g q) : dAll (zX4_isWord_s24_t7 q) (fun o => Lo f g o.2) := by
  unfold zX4_isWord_s24_t7
  refine dA_if (fun _ => ?_) (fun _ => ?_)
  · refine dA_B (lo_zX4_isSame_s24_t7 f g q 0 2 h) (fun r1 q3 hq3 => ?_)
    refine dA_if (fun _ => ?_) (fun _ => ?_)
    · exact lo_zX4_isWord_s24_t7_25 f g q3 hq3
    · exact lo_zX4_isWord_s24_t7_26 f g q3 1 hq3
  · exact lo_zX4_isWord_s24_t7_25 f g q h

theorem lo_zX4_isSame_s24_t8_20b (f g : Nat → Int64) (k20 : dK → Int32 → Int32 → Int32 → Option (Int32 × dK)) (hk20 : ∀ (y0 : dK) (y1 : Int32) (y2 : Int32) (y3 : Int32), Lo f g y0 → dAll (k20 y0 y1 y2 y3) (fun o => Lo f g o.2)) (q : dK) (x2 : Int32) (x3 : Int32) (x4 : Int32) (h : Lo f g q) : dAll (zX4_isSame_s24_t8_20b k20 q x2 x3 x4) (fun o => Lo f g o.2) := by
  unfold zX4_isSame_s24_t8_20b
  refine dA_if (fun _ => ?_) (fun _ => ?_)
  · exact dA_some h
  · refine dA_G (fun _ => ?_)
    refine dA_L (fun v2 e_1 => ?_)
    refine dA_G (fun _ => ?_)
    refine dA_G (fun _ => ?_)
    refine dA_L (fun v5 e_2 => ?_)
    refine dA_if (fun _ => ?_) (fun _ => ?_)
    · exact hk20 q x2 x3 (x4 + 1) h
    · exact dA_some h

theorem lo_zX4_isSame_s24_t8_20 (f g : Nat → Int64) (n : Nat) (q : dK) (x2 : Int32) (x3 : Int32) (x4 : Int32) (h : Lo f g q) : dAll (zX4_isSame_s24_t8_20 n q x2 x3 x4) (fun o => Lo f g o.2) := by
  unfold zX4_isSame_s24_t8_20
  exact dA_fix (fun (a : dK × Int32 × Int32 × Int32) => Lo f g a.1) (fun k hk a ha => lo_zX4_isSame_s24_t8_20b f g  _ (fun q x2 x3 x4 hq => hk (q, x2, x3, x4) hq) a.1 a.2.1 a.2.2.1 a.2.2.2 ha) n _ h

theorem lo_zX4_isSame_s24_t8 (f g : Nat → Int64) (q : dK) (p2 : Int32) (p3 : Int32) (h : Lo f g q) : dAll (zX4_isSame_s24_t8 q p2 p3) (fun o => Lo f g o.2) := by
  unfold zX4_isSame_s24_t8
  refine dA_if (fun _ => ?_) (fun _ => ?_)
  · exact lo_zX4_isSame_s24_t8_20 f g dF q p2 p3 p2 h
  · exact dA_some h

theorem lo_zX4_isWord_s24_t8_26 (f g : Nat → Int64) (q : dK) (y0 : Int32) (h : Lo f g q) : dAll (zX4_isWord_s24_t8_26 q y0) (fun o => Lo f g o.2) := by
  unfold zX4_isWord_s24_t8_26
  refine dA_G (fun _ => ?_)
  exact dA_some h

theorem lo_zX4_isWord_s24_t8_25 (f g : Nat → Int64) (q : dK) (h : Lo f g q) : dAll (zX4_isWord_s24_t8_25 q) (fun o => Lo f g o.2) := by
  unfold zX4_isWord_s24_t8_25
  exact lo_zX4_isWord_s24_t8_26 f g q 0 h

theorem lo_zX4_isWord_s24_t8 (f g : Nat → Int64) (q : dK) (h : Lo f g q) : dAll (zX4_isWord_s24_t8 q) (fun o => Lo f g o.2) := by
  unfold zX4_isWord_s24_t8
  refine dA_if (fun _ => ?_) (fun _ => ?_)
  · refine dA_B (lo_zX4_isSame_s24_t8 f g q 0 3 h) (fun r1 q3 hq3 => ?_)
    refine dA_if (fun _ => ?_) (fun _ => ?_)
    · exact lo_zX4_isWord_s24_t8_25 f g q3 hq3
    · exact lo_zX4_isWord_s24_t8_26 f g q3 1 hq3
  · exact lo_zX4_isWord_s24_t8_25 f g q h

theorem lo_zX4_signIn_s24_t9_2b (f g : Nat → Int64) (k2 : dK → Int32 → Int32 → Option (Int32 × dK)) (hk2 : ∀ (y0 : dK) (y1 : Int32) (y2 : Int32), Lo f g y0 → dAll (k2 y0 y1 y2) (fun o => Lo f g o.2)) (q : dK) (x2 : Int32) (x3 : Int32) (h : Lo f g q) : dAll (zX4_signIn_s24_t9_2b k2 q x2 x3) (fun o => Lo f g o.2) := by
  unfold zX4_signIn_s24_t9_2b
  refine dA_if (fun _ => ?_) (fun _ => ?_)
  · exact dA_some h
  · refine dA_G (fun _ => ?_)
    refine dA_L (fun v2 e_1 => ?_)
    refine dA_B (lo_zX4_isSign_s24 f g q v2 h) (fun r3 q5 hq5 => ?_)
    refine dA_if (fun _ => ?_) (fun _ => ?_)
    · exact hk2 q5 x2 (x3 + 1) hq5
    · exact dA_some hq5

theorem lo_zX4_signIn_s24_t9_2 (f g : Nat → Int64) (n : Nat) (q : dK) (x2 : Int32) (x3 : Int32) (h : Lo f g q) : dAll (zX4_signIn_s24_t9_2 n q x2 x3) (fun o => Lo f g o.2) := by
  unfold zX4_signIn_s24_t9_2
  exact dA_fix (fun (a : dK × Int32 × Int32) => Lo f g a.1) (fun k hk a ha => lo_zX4_signIn_s24_t9_2b f g  _ (fun q x2 x3 hq => hk (q, x2, x3) hq) a.1 a.2.1 a.2.2 ha) n _ h

theorem lo_zX4_signIn_s24_t9 (f g : Nat → Int64) (q : dK) (p2 : Int32) (h : Lo f g q) : dAll (zX4_signIn_s24_t9 q p2) (fun o => Lo f g o.2) := by
  unfold zX4_signIn_s24_t9
  exact lo_zX4_signIn_s24_t9_2 f g dF q p2 0 h

theorem lo_zX4_readPlain_s24_142 (f g : Nat → Int64) (kT : dK → Option (dK)) (hkT : ∀ (y0 : dK), Lo f g y0 → dAll (kT y0) (fun o => Lo f g o)) (q : dK) (h : Lo f g q) : dAll (zX4_readPlain_s24_142 kT q) (fun o => Lo f g o) := by
  unfold zX4_readPlain_s24_142
  exact dA_some h

theorem lo_zX4_readPlain_s24_128 (f g : Nat → Int64) (kT : dK → Option (dK)) (hkT : ∀ (y0 : dK), Lo f g y0 → dAll (kT y0) (fun o => Lo f g o)) (q : dK) (x1 : Int32) (h : Lo f g q) : dAll (zX4_readPlain_s24_128 kT q x1) (fun o => Lo f g o) := by
  unfold zX4_readPlain_s24_128
  refine dA_if (fun _ => ?_) (fun _ => ?_)
  · exact lo_zX4_readPlain_s24_142 f g kT hkT q h
  · refine dA_G (fun _ => ?_)
    refine dA_V (lo_zX7_emit_s25 f g q 10 0 h) (fun q4 hq4 => ?_)
    exact lo_zX4_readPlain_s24_142 f g kT hkT q4 hq4

theorem lo_zX4_readPlain_s24_106 (f g : Nat → Int64) (kT : dK → Option (dK)) (hkT : ∀ (y0 : dK), Lo f g y0 → dAll (kT y0) (fun o => Lo f g o)) (q : dK) (h : Lo f g q) : dAll (zX4_readPlain_s24_106 kT q) (fun o => Lo f g o) := by
  unfold zX4_readPlain_s24_106
  refine dA_V (lo_zX4_fail_s24 f g q h) (fun q3 hq3 => ?_)
  exact dA_some hq3

theorem lo_zX4_readPlain_s24_41 (f g : Nat → Int64) (kT : dK → Option (dK)) (hkT : ∀ (y0 : dK), Lo f g y0 → dAll (kT y0) (fun o => Lo f g o)) (q : dK) (x1 : Int32) (h : Lo f g q) : dAll (zX4_readPlain_s24_41 kT q x1) (fun o => Lo f g o) := by
  unfold zX4_readPlain_s24_41
  refine dA_B (lo_zX4_isSign_s24 f g q 40 h) (fun r1 q3 hq3 => ?_)
  refine dA_if (fun _ => ?_) (fun _ => ?_)
  · refine dA_V (lo_zX4_readSum_s24 f g 10 q3 hq3) (fun q6 hq6 => ?_)
    refine dA_B (lo_zX4_signIn_s24_t9 f g q6 7 hq6) (fun r7 q9 hq9 => ?_)
    refine dA_if (fun _ => ?_) (fun _ => ?_)
    · refine dA_if (fun _ => ?_) (fun _ => ?_)
      · exact lo_zX4_readPlain_s24_106 f g kT hkT q9 hq9
      · refine dA_V (lo_zX4_step_s24 f g q9 hq9) (fun q12 hq12 => ?_)
        refine dA_V (lo_zX4_readSum_s24 f g 10 q12 hq12) (fun q15 hq15 => ?_)
        refine dA_G (fun _ => ?_)
        refine dA_V (lo_zX7_emit_s25 f g q15 r7 0 hq15) (fun q19 hq19 => ?_)
        exact lo_zX4_readPlain_s24_128 f g kT hkT q19 x1 hq19
    · exact lo_zX4_readPlain_s24_106 f g kT hkT q9 hq9
  · refine dA_B (lo_zX4_openBracket_s24 f g q3 hq3) (fun r20 q22 hq22 => ?_)
    refine dA_if (fun _ => ?_) (fun _ => ?_)
    · exact lo_zX4_readPlain_s24_128 f g kT hkT q22 x1 hq22
    · refine dA_V (hkT q22 hq22) (fun q25 hq25 => ?_)
      refine dA_L (fun q26 e_1 => ?_)
      have hq26 : Lo f g q26 := by rw [e_1]; exact hq25
      refine dA_V (lo_zX4_expectSign_s24 f g q26 41 hq26) (fun q29 hq29 => ?_)
      exact lo_zX4_readPlain_s24_128 f g kT hkT q29 x1 hq29

theorem lo_zX4_readPlain_s24_30 (f g : Nat → Int64) (kT : dK → Option (dK)) (hkT : ∀ (y0 : dK), Lo f g y0 → dAll (kT y0) (fun o => Lo f g o)) (k4 : dK → Int32 → Int32 → Option (dK)) (hk4 : ∀ (y0 : dK) (y1 : Int32) (y2 : Int32), Lo f g y0 → dAll (k4 y0 y1 y2) (fun o => Lo f g o)) (q : dK) (x2 : Int32) (y0 : Int32) (h : Lo f g q) : dAll (zX4_readPlain_s24_30 kT k4 q x2 y0) (fun o => Lo f g o) := by
  unfold zX4_readPlain_s24_30
  refine dA_V (lo_zX4_step_s24 f g q h) (fun q3 hq3 => ?_)
  exact hk4 q3 y0 (x2 + 1) hq3

theorem lo_zX4_readPlain_s24_4b (f g : Nat → Int64) (kT : dK → Option (dK)) (hkT : ∀ (y0 : dK), Lo f g y0 → dAll (kT y0) (fun o => Lo f g o)) (k4 : dK → Int32 → Int32 → Option (dK)) (hk4 : ∀ (y0 : dK) (y1 : Int32) (y2 : Int32), Lo f g y0 → dAll (k4 y0 y1 y2) (fun o => Lo f g o)) (q : dK) (x1 : Int32) (x2 : Int32) (h : Lo f g q) : dAll (zX4_readPlain_s24_4b kT k4 q x1 x2) (fun o => Lo f g o) := by
  unfold zX4_readPlain_s24_4b
  refine dA_if (fun _ => ?_) (fun _ => ?_)
  · exact lo_zX4_readPlain_s24_41 f g kT hkT q x1 h
  · refine dA_B (lo_zX4_isWord_s24_t8 f g q h) (fun r1 q3 hq3 => ?_)
    refine dA_if (fun _ => ?_) (fun _ => ?_)
    · exact lo_zX4_readPlain_s24_41 f g kT hkT q3 x1 hq3
    · refine dA_if (fun _ => ?_) (fun _ => ?_)
      · exact lo_zX4_readPlain_s24_30 f g kT hkT k4 hk4 q3 x2 1 hq3
      · exact lo_zX4_readPlain_s24_30 f g kT hkT k4 hk4 q3 x2 0 hq3

theorem lo_zX4_readPlain_s24_4 (f g : Nat → Int64) (kT : dK → Option (dK)) (hkT : ∀ (y0 : dK), Lo f g y0 → dAll (kT y0) (fun o => Lo f g o)) (n : Nat) (q : dK) (x1 : Int32) (x2 : Int32) (h : Lo f g q) : dAll (zX4_readPlain_s24_4 kT n q x1 x2) (fun o => Lo f g o) := by
  unfold zX4_readPlain_s24_4
  exact dA_fix (fun (a : dK × Int32 × Int32) => Lo f g a.1) (fun k hk a ha => lo_zX4_readPlain_s24_4b f g kT hkT _ (fun q x1 x2 hq => hk (q, x1, x2) hq) a.1 a.2.1 a.2.2 ha) n _ h

theorem lo_zX4_readPlain_s24 (f g : Nat → Int64) (kT : dK → Option (dK)) (hkT : ∀ (y0 : dK), Lo f g y0 → dAll (kT y0) (fun o => Lo f g o)) (q : dK) (h : Lo f g q) : dAll (zX4_readPlain_s24 kT q) (fun o => Lo f g o) := by
  unfold zX4_readPlain_s24
  exact lo_zX4_readPlain_s24_4 f g kT hkT dF q 0 0 h

theorem lo_zX4_isSame_s24_t10_20b (f g : Nat → Int64) (k20 : dK → Int32 → Int32 → Int32 → Option (Int32 × dK)) (hk20 : ∀ (y0 : dK) (y1 : Int32) (y2 : Int32) (y3 : Int32), Lo f g y0 → dAll (k20 y0 y1 y2 y3) (fun o => Lo f g o.2)) (q : dK) (x2 : Int32) (x3 : Int32) (x4 : Int32) (h : Lo f g q) : dAll (zX4_isSame_s24_t10_20b k20 q x2 x3 x4) (fun o => Lo f g o.2) := by
  unfold zX4_isSame_s24_t10_20b
  refine dA_if (fun _ => ?_) (fun _ => ?_)
  · exact dA_some h
  · refine dA_G (fun _ => ?_)
    refine dA_L (fun v2 e_1 => ?_)
    refine dA_G (fun _ => ?_)
    refine dA_G (fun _ => ?_)
    refine dA_L (fun v5 e_2 => ?_)
    refine dA_if (fun _ => ?_) (fun _ => ?_)
    · exact hk20 q x2 x3 (x4 + 1) h
    · exact dA_some h

theorem lo_zX4_isSame_s24_t10_20 (f g : Nat → Int64) (n : Nat) (q : dK) (x2 : Int32) (x3 : Int32) (x4 : Int32) (h : Lo f g q) : dAll (zX4_isSame_s24_t10_20 n q x2 x3 x4) (fun o => Lo f g o.2) := by
  unfold zX4_isSame_s24_t10_20
  exact dA_fix (fun (a : dK × Int32 × Int32 × Int32) => Lo f g a.1) (fun k hk a ha => lo_zX4_isSame_s24_t10_20b f g  _ (fun q x2 x3 x4 hq => hk (q, x2, x3, x4) hq) a.1 a.2.1 a.2.2.1 a.2.2.2 ha) n _ h

theorem lo_zX4_isSame_s24_t10 (f g : Nat → Int64) (q : dK) (p2 : Int32) (p3 : Int32) (h : Lo f g q) : dAll (zX4_isSame_s24_t10 q p2 p3) (fun o => Lo f g o.2) := by
  unfold zX4_isSame_s24_t10
  refine dA_if (fun _ => ?_) (fun _ => ?_)
  · exact lo_zX4_isSame_s24_t10_20 f g dF q p2 p3 p2 h
  · exact dA_some h

theorem lo_zX4_isWord_s24_t10_26 (f g : Nat → Int64) (q : dK) (y0 : Int32) (h : Lo f g q) : dAll (zX4_isWord_s24_t10_26 q y0) (fun o => Lo f g o.2) := by
  unfold zX4_isWord_s24_t10_26
  refine dA_G (fun _ => ?_)
  exact dA_some h

theorem lo_zX4_isWord_s24_t10_25 (f g : Nat → Int64) (q : dK) (h : Lo f g q) : dAll (zX4_isWord_s24_t10_25 q) (fun o => Lo f g o.2) := by
  unfold zX4_isWord_s24_t10_25
  exact lo_zX4_isWord_s24_t10_26 f g q 0 h

theorem lo_zX4_isWord_s24_t10 (f g : Nat → Int64) (q : dK) (h : Lo f g q) : dAll (zX4_isWord_s24_t10 q) (fun o => Lo f g o.2) := by
  unfold zX4_isWord_s24_t10
  refine dA_if (fun _ => ?_) (fun _ => ?_)
  · refine dA_B (lo_zX4_isSame_s24_t10 f g q 0 3 h) (fun r1 q3 hq3 => ?_)
    refine dA_if (fun _ => ?_) (fun _ => ?_)
    · exact lo_zX4_isWord_s24_t10_25 f g q3 hq3
    · exact lo_zX4_isWord_s24_t10_26 f g q3 1 hq3
  · exact lo_zX4_isWord_s24_t10_25 f g q h

theorem lo_zX7_leapHere_s25_26 (f g : Nat → Int64) (q : dK) (h : Lo f g q) : dAll (zX7_leapHere_s25_26 q) (fun o => Lo f g o) := by
  unfold zX7_leapHere_s25_26
  exact dA_some h

theorem lo_zX7_leapHere_s25 (f g : Nat → Int64) (q : dK) (p1 : Int32) (p2 : Int32) (h : Lo f g q) : dAll (zX7_leapHere_s25 q p1 p2) (fun o => Lo f g o) := by
  unfold zX7_leapHere_s25
  refine dA_if (fun _ => ?_) (fun _ => ?_)
  · exact lo_zX7_leapHere_s25_26 f g q h
  · refine dA_if (fun _ => ?_) (fun _ => ?_)
    · exact lo_zX7_leapHere_s25_26 f g q h
    · refine dA_G (fun _ => ?_)
      refine dA_L (fun q2 e_1 => ?_)
      have hq2 : Lo f g q2 := by rw [e_1]; exact h
      exact lo_zX7_leapHere_s25_26 f g q2 hq2

theorem lo_zX4_readBoth_s24_73 (f g : Nat → Int64) (kT : dK → Option (dK)) (hkT : ∀ (y0 : dK), Lo f g y0 → dAll (kT y0) (fun o => Lo f g o)) (q : dK) (h : Lo f g q) : dAll (zX4_readBoth_s24_73 kT q) (fun o => Lo f g o) := by
  unfold zX4_readBoth_s24_73
  exact dA_some h

theorem lo_zX4_readBoth_s24_6b (f g : Nat → Int64) (kT : dK → Option (dK)) (hkT : ∀ (y0 : dK), Lo f g y0 → dAll (kT y0) (fun o => Lo f g o)) (k6 : dK → Int32 → Option (dK)) (hk6 : ∀ (y0 : dK) (y1 : Int32), Lo f g y0 → dAll (k6 y0 y1) (fun o => Lo f g o)) (q : dK) (x1 : Int32) (h : Lo f g q) : dAll (zX4_readBoth_s24_6b kT k6 q x1) (fun o => Lo f g o) := by
  unfold zX4_readBoth_s24_6b
  refine dA_if (fun _ => ?_) (fun _ => ?_)
  · exact lo_zX4_readBoth_s24_73 f g kT hkT q h
  · refine dA_if (fun _ => ?_) (fun _ => ?_)
    · refine dA_B (lo_zX4_isWord_s24_t10 f g q h) (fun r1 q3 hq3 => ?_)
      refine dA_if (fun _ => ?_) (fun _ => ?_)
      · exact lo_zX4_readBoth_s24_73 f g kT hkT q3 hq3
      · refine dA_G (fun _ => ?_)
        refine dA_G (fun _ => ?_)
        refine dA_V (lo_zX7_emit_s25 f g q3 11 0 hq3) (fun q8 hq8 => ?_)
        refine dA_V (lo_zX4_step_s24 f g q8 hq8) (fun q11 hq11 => ?_)
        refine dA_V (lo_zX4_readPlain_s24 f g kT hkT q11 hq11) (fun q14 hq14 => ?_)
        refine dA_G (fun _ => ?_)
        refine dA_V (lo_zX7_leapHere_s25 f g q14 11 (q3.1 25 7) hq14) (fun q18 hq18 => ?_)
        exact hk6 q18 (x1 + 1) hq18
    · exact lo_zX4_readBoth_s24_73 f g kT hkT q h

theorem lo_zX4_readBoth_s24_6 (f g : Nat → Int64) (kT : dK → Option (dK)) (hkT : ∀ (y0 : dK), Lo f g y0 → dAll (kT y0) (fun o => Lo f g o)) (n : Nat) (q : dK) (x1 : Int32) (h : Lo f g q) : dAll (zX4_readBoth_s24_6 kT n q x1) (fun o => Lo f g o) := by
  unfold zX4_readBoth_s24_6
  exact dA_fix (fun (a : dK × Int32) => Lo f g a.1) (fun k hk a ha => lo_zX4_readBoth_s24_6b f g kT hkT _ (fun q x1 hq => hk (q, x1) hq) a.1 a.2 ha) n _ h

theorem lo_zX4_readBoth_s24 (f g : Nat → Int64) (kT : dK → Option (dK)) (hkT : ∀ (y0 : dK), Lo f g y0 → dAll (kT y0) (fun o => Lo f g o)) (q : dK) (h : Lo f g q) : dAll (zX4_readBoth_s24 kT q) (fun o => Lo f g o) := by
  unfold zX4_readBoth_s24
  refine dA_V (lo_zX4_readPlain_s24 f g kT hkT q h) (fun q3 hq3 => ?_)
  exact lo_zX4_readBoth_s24_6 f g kT hkT dF q3 0 hq3

theorem lo_zX4_isSame_s24_t11_20b (f g : Nat → Int64) (k20 : dK → Int32 → Int32 → Int32 → Option (Int32 × dK)) (hk20 : ∀ (y0 : dK) (y1 : Int32) (y2 : Int32) (y3 : Int32), Lo f g y0 → dAll (k20 y0 y1 y2 y3) (fun o => Lo f g o.2)) (q : dK) (x2 : Int32) (x3 : Int32) (x4 : Int32) (h : Lo f g q) : dAll (zX4_isSame_s24_t11_20b k20 q x2 x3 x4) (fun o => Lo f g o.2) := by
  unfold zX4_isSame_s24_t11_20b
  refine dA_if (fun _ => ?_) (fun _ => ?_)
  · exact dA_some h
  · refine dA_G (fun _ => ?_)
    refine dA_L (fun v2 e_1 => ?_)
    refine dA_G (fun _ => ?_)
    refine dA_G (fun _ => ?_)
    refine dA_L (fun v5 e_2 => ?_)
    refine dA_if (fun _ => ?_) (fun _ => ?_)
    · exact hk20 q x2 x3 (x4 + 1) h
    · exact dA_some h

theorem lo_zX4_isSame_s24_t11_20 (f g : Nat → Int64) (n : Nat) (q : dK) (x2 : Int32) (x3 : Int32) (x4 : Int32) (h : Lo f g q) : dAll (zX4_isSame_s24_t11_20 n q x2 x3 x4) (fun o => Lo f g o.2) := by
  unfold zX4_isSame_s24_t11_20
  exact dA_fix (fun (a : dK × Int32 × Int32 × Int32) => Lo f g a.1) (fun k hk a ha => lo_zX4_isSame_s24_t11_20b f g  _ (fun q x2 x3 x4 hq => hk (q, x2, x3, x4) hq) a.1 a.2.1 a.2.2.1 a.2.2.2 ha) n _ h

theorem lo_zX4_isSame_s24_t11 (f g : Nat → Int64) (q : dK) (p2 : Int32) (p3 : Int32) (h : Lo f g q) : dAll (zX4_isSame_s24_t11 q p2 p3) (fun o => Lo f g o.2) := by
  unfold zX4_isSame_s24_t11
  refine dA_if (fun _ => ?_) (fun _ => ?_)
  · exact lo_zX4_isSame_s24_t11_20 f g dF q p2 p3 p2 h
  · exact dA_some h

theorem lo_zX4_isWord_s24_t11_26 (f g : Nat → Int64) (q : dK) (y0 : Int32) (h : Lo f g q) : dAll (zX4_isWord_s24_t11_26 q y0) (fun o => Lo f g o.2) := by
  unfold zX4_isWord_s24_t11_26
  refine dA_G (fun _ => ?_)
  exact dA_some h

theorem lo_zX4_isWord_s24_t11_25 (f g : Nat → Int64) (q : dK) (h : Lo f g q) : dAll (zX4_isWord_s24_t11_25 q) (fun o => Lo f g o.2) := by
  unfold zX4_isWord_s24_t11_25
  exact lo_zX4_isWord_s24_t11_26 f g q 0 h

theorem lo_zX4_isWord_s24_t11 (f g : Nat → Int64) (q : dK) (h : Lo f g q) : dAll (zX4_isWord_s24_t11 q) (fun o => Lo f g o.2) := by
  unfold zX4_isWord_s24_t11
  refine dA_if (fun _ => ?_) (fun _ => ?_)
  · refine dA_B (lo_zX4_isSame_s24_t11 f g q 0 2 h) (fun r1 q3 hq3 => ?_)
    refine dA_if (fun _ => ?_) (fun _ => ?_)
    · exact lo_zX4_isWord_s24_t11_25 f g q3 hq3
    · exact lo_zX4_isWord_s24_t11_26 f g q3 1 hq3
  · exact lo_zX4_isWord_s24_t11_25 f g q h

theorem lo_zX4_readTest_s24_73 (f g : Nat → Int64) (kT : dK → Option (dK)) (hkT : ∀ (y0 : dK), Lo f g y0 → dAll (kT y0) (fun o => Lo f g o)) (q : dK) (h : Lo f g q) : dAll (zX4_readTest_s24_73 kT q) (fun o => Lo f g o) := by
  unfold zX4_readTest_s24_73
  exact dA_some h

theorem lo_zX4_readTest_s24_6b (f g : Nat → Int64) (kT : dK → Option (dK)) (hkT : ∀ (y0 : dK), Lo f g y0 → dAll (kT y0) (fun o => Lo f g o)) (k6 : dK → Int32 → Option (dK)) (hk6 : ∀ (y0 : dK) (y1 : Int32), Lo f g y0 → dAll (k6 y0 y1) (fun o => Lo f g o)) (q : dK) (x1 : Int32) (h : Lo f g q) : dAll (zX4_readTest_s24_6b kT k6 q x1) (fun o => Lo f g o) := by
  unfold zX4_readTest_s24_6b
  refine dA_if (fun _ => ?_) (fun _ => ?_)
  · exact lo_zX4_readTest_s24_73 f g kT hkT q h
  · refine dA_if (fun _ => ?_) (fun _ => ?_)
    · refine dA_B (lo_zX4_isWord_s24_t11 f g q h) (fun r1 q3 hq3 => ?_)
      refine dA_if (fun _ => ?_) (fun _ => ?_)
      · exact lo_zX4_readTest_s24_73 f g kT hkT q3 hq3
      · refine dA_G (fun _ => ?_)
        refine dA_G (fun _ => ?_)
        refine dA_V (lo_zX7_emit_s25 f g q3 12 0 hq3) (fun q8 hq8 => ?_)
        refine dA_V (lo_zX4_step_s24 f g q8 hq8) (fun q11 hq11 => ?_)
        refine dA_V (lo_zX4_readBoth_s24 f g kT hkT q11 hq11) (fun q14 hq14 => ?_)
        refine dA_G (fun _ => ?_)
        refine dA_V (lo_zX7_leapHere_s25 f g q14 12 (q3.1 25 7) hq14) (fun q18 hq18 => ?_)
        exact hk6 q18 (x1 + 1) hq18
    · exact lo_zX4_readTest_s24_73 f g kT hkT q h

theorem lo_zX4_readTest_s24_6 (f g : Nat → Int64) (kT : dK → Option (dK)) (hkT : ∀ (y0 : dK), Lo f g y0 → dAll (kT y0) (fun o => Lo f g o)) (n : Nat) (q : dK) (x1 : Int32) (h : Lo f g q) : dAll (zX4_readTest_s24_6 kT n q x1) (fun o => Lo f g o) := by
  unfold zX4_readTest_s24_6
  exact dA_fix (fun (a : dK × Int32) => Lo f g a.1) (fun k hk a ha => lo_zX4_readTest_s24_6b f g kT hkT _ (fun q x1 hq => hk (q, x1) hq) a.1 a.2 ha) n _ h

theorem lo_zX4_readTest_s24_o (f g : Nat → Int64) (kT : dK → Option (dK)) (hkT : ∀ (y0 : dK), Lo f g y0 → dAll (kT y0) (fun o => Lo f g o)) (q : dK) (h : Lo f g q) : dAll (zX4_readTest_s24_o kT q) (fun o => Lo f g o) := by
  unfold zX4_readTest_s24_o
  refine dA_V (lo_zX4_readBoth_s24 f g kT hkT q h) (fun q3 hq3 => ?_)
  exact lo_zX4_readTest_s24_6 f g kT hkT dF q3 0 hq3

theorem lo_zX4_readTest_s24 (f g : Nat → Int64) (n : Nat) : ∀ (q : dK) (h : Lo f g q), dAll (zX4_readTest_s24 n q) (fun o => Lo f g o) := by
  induction n with
  | zero => intro q h o e; cases e
  | succ n ih => intro q h; exact lo_zX4_readTest_s24_o f g (zX4_readTest_s24 n) ih q h

theorem lo_zX7_endTest_s25_22 (f g : Nat → Int64) (q : dK) (h : Lo f g q) : dAll (zX7_endTest_s25_22 q) (fun o => Lo f g o) := by
  unfold zX7_endTest_s25_22
  exact dA_some h

theorem lo_zX7_endTest_s25 (f g : Nat → Int64) (q : dK) (h : Lo f g q) : dAll (zX7_endTest_s25 q) (fun o => Lo f g o) := by
  unfold zX7_endTest_s25
  refine dA_if (fun _ => ?_) (fun _ => ?_)
  · exact lo_zX7_endTest_s25_22 f g q h
  · refine dA_G (fun _ => ?_)
    refine dA_L (fun q2 e_1 => ?_)
    have hq2 : Lo f g q2 := by rw [e_1]; exact h
    exact lo_zX7_endTest_s25_22 f g q2 hq2

theorem lo_zX4_readClause_s24_135 (f g : Nat → Int64) (q : dK) (h : Lo f g q) : dAll (zX4_readClause_s24_135 q) (fun o => Lo f g o) := by
  unfold zX4_readClause_s24_135
  exact dA_some h

theorem lo_zX4_readClause_s24_103 (f g : Nat → Int64) (q : dK) (h : Lo f g q) : dAll (zX4_readClause_s24_103 q) (fun o => Lo f g o) := by
  unfold zX4_readClause_s24_103
  refine dA_if (fun _ => ?_) (fun _ => ?_)
  · refine dA_B (lo_zX4_isWord_s24_t7 f g q h) (fun r1 q3 hq3 => ?_)
    refine dA_if (fun _ => ?_) (fun _ => ?_)
    · exact lo_zX4_readClause_s24_135 f g q3 hq3
    · refine dA_V (lo_zX4_step_s24 f g q3 hq3) (fun q6 hq6 => ?_)
      refine dA_V (lo_zX4_readTest_s24 f g 10 q6 hq6) (fun q9 hq9 => ?_)
      refine dA_G (fun _ => ?_)
      refine dA_V (lo_zX7_endTest_s25 f g q9 hq9) (fun q13 hq13 => ?_)
      exact lo_zX4_readClause_s24_135 f g q13 hq13
  · exact lo_zX4_readClause_s24_135 f g q h

theorem lo_zX4_readClause_s24_71 (f g : Nat → Int64) (q : dK) (h : Lo f g q) : dAll (zX4_readClause_s24_71 q) (fun o => Lo f g o) := by
  unfold zX4_readClause_s24_71
  refine dA_if (fun _ => ?_) (fun _ => ?_)
  · exact lo_zX4_readClause_s24_103 f g q h
  · refine dA_if (fun _ => ?_) (fun _ => ?_)
    · refine dA_B (lo_zX4_isWord_s24_t6 f g q h) (fun r1 q3 hq3 => ?_)
      refine dA_if (fun _ => ?_) (fun _ => ?_)
      · exact lo_zX4_readClause_s24_103 f g q3 hq3
      · refine dA_V (lo_zX4_step_s24 f g q3 hq3) (fun q6 hq6 => ?_)
        refine dA_V (lo_zX4_readTimes_s24 f g q6 hq6) (fun q9 hq9 => ?_)
        exact lo_zX4_readClause_s24_103 f g q9 hq9
    · exact lo_zX4_readClause_s24_103 f g q h

theorem lo_zX4_readClause_s24_60 (f g : Nat → Int64) (q : dK) (h : Lo f g q) : dAll (zX4_readClause_s24_60 q) (fun o => Lo f g o) := by
  unfold zX4_readClause_s24_60
  refine dA_V (lo_zX4_readSum_s24 f g 10 q h) (fun q3 hq3 => ?_)
  refine dA_G (fun _ => ?_)
  refine dA_V (lo_zX7_endSum_s25 f g q3 hq3) (fun q7 hq7 => ?_)
  exact lo_zX4_readClause_s24_71 f g q7 hq7

theorem lo_zX4_readClause_s24_15 (f g : Nat → Int64) (q : dK) (h : Lo f g q) : dAll (zX4_readClause_s24_15 q) (fun o => Lo f g o) := by
  unfold zX4_readClause_s24_15
  refine dA_B (lo_zX4_wordIn_s24_t1 f g q h) (fun r1 q3 hq3 => ?_)
  refine dA_if (fun _ => ?_) (fun _ => ?_)
  · refine dA_V (lo_zX4_fail_s24 f g q3 hq3) (fun q13 hq13 => ?_)
    exact dA_some hq13
  · refine dA_G (fun _ => ?_)
    refine dA_V (lo_zX7_beginClause_s25 f g q3 r1 hq3) (fun q7 hq7 => ?_)
    refine dA_V (lo_zX4_step_s24 f g q7 hq7) (fun q10 hq10 => ?_)
    refine dA_if (fun _ => ?_) (fun _ => ?_)
    · refine dA_if (fun _ => ?_) (fun _ => ?_)
      · exact lo_zX4_readClause_s24_60 f g q10 hq10
      · exact lo_zX4_readClause_s24_71 f g q10 hq10
    · refine dA_if (fun _ => ?_) (fun _ => ?_)
      · exact lo_zX4_readClause_s24_71 f g q10 hq10
      · exact lo_zX4_readClause_s24_60 f g q10 hq10

theorem lo_zX4_readClause_s24 (f g : Nat → Int64) (q : dK) (h : Lo f g q) : dAll (zX4_readClause_s24 q) (fun o => Lo f g o) := by
  unfold zX4_readClause_s24
  refine dA_if (fun _ => ?_) (fun _ => ?_)
  · exact lo_zX4_readClause_s24_15 f g q h
  · refine dA_B (lo_zX4_wordIn_s24_t0 f g q h) (fun r1 q3 hq3 => ?_)
    refine dA_if (fun _ => ?_) (fun _ => ?_)
    · refine dA_V (lo_zX4_fail_s24 f g q3 hq3) (fun q13 hq13 => ?_)
      exact dA_some hq13
    · refine dA_G (fun _ => ?_)
      refine dA_V (lo_zX7_beginClause_s25 f g q3 r1 hq3) (fun q7 hq7 => ?_)
      refine dA_V (lo_zX4_step_s24 f g q7 hq7) (fun q10 hq10 => ?_)
      refine dA_if (fun _ => ?_) (fun _ => ?_)
      · refine dA_if (fun _ => ?_) (fun _ => ?_)
        · exact lo_zX4_readClause_s24_60 f g q10 hq10
        · exact lo_zX4_readClause_s24_71 f g q10 hq10
      · refine dA_if (fun _ => ?_) (fun _ => ?_)
        · exact lo_zX4_readClause_s24_71 f g q10 hq10
        · exact lo_zX4_readClause_s24_60 f g q10 hq10

theorem lo_zX4_read_s24_s46_s25_122 (f g : Nat → Int64) (q : dK) (h : Lo f g q) : dAll (zX4_read_s24_s46_s25_122 q) (fun o => Lo f g o.2) := by
  unfold zX4_read_s24_s46_s25_122
  exact dA_some h

theorem lo_zX4_read_s24_s46_s25_110 (f g : Nat → Int64) (k60 : dK → Int32 → Option (Int32 × dK)) (hk60 : ∀ (y0 : dK) (y1 : Int32), Lo f g y0 → dAll (k60 y0 y1) (fun o => Lo f g o.2)) (q : dK) (x5 : Int32) (h : Lo f g q) : dAll (zX4_read_s24_s46_s25_110 k60 q x5) (fun o => Lo f g o.2) := by
  unfold zX4_read_s24_s46_s25_110
  refine dA_V (lo_zX4_expectSign_s24 f g q 59 h) (fun q3 hq3 => ?_)
  exact hk60 q3 (x5 + 1) hq3

theorem lo_zX4_read_s24_s46_s25_93 (f g : Nat → Int64) (k60 : dK → Int32 → Option (Int32 × dK)) (hk60 : ∀ (y0 : dK) (y1 : Int32), Lo f g y0 → dAll (k60 y0 y1) (fun o => Lo f g o.2)) (q : dK) (x5 : Int32) (h : Lo f g q) : dAll (zX4_read_s24_s46_s25_93 k60 q x5) (fun o => Lo f g o.2) := by
  unfold zX4_read_s24_s46_s25_93
  refine dA_if (fun _ => ?_) (fun _ => ?_)
  · refine dA_if (fun _ => ?_) (fun _ => ?_)
    · exact dA_some h
    · exact lo_zX4_read_s24_s46_s25_110 f g k60 hk60 q x5 h
  · exact lo_zX4_read_s24_s46_s25_110 f g k60 hk60 q x5 h

theorem lo_zX4_read_s24_s46_s25_60b (f g : Nat → Int64) (k60 : dK → Int32 → Option (Int32 × dK)) (hk60 : ∀ (y0 : dK) (y1 : Int32), Lo f g y0 → dAll (k60 y0 y1) (fun o => Lo f g o.2)) (q : dK) (x5 : Int32) (h : Lo f g q) : dAll (zX4_read_s24_s46_s25_60b k60 q x5) (fun o => Lo f g o.2) := by
  unfold zX4_read_s24_s46_s25_60b
  refine dA_if (fun _ => ?_) (fun _ => ?_)
  · exact lo_zX4_read_s24_s46_s25_122 f g q h
  · refine dA_if (fun _ => ?_) (fun _ => ?_)
    · refine dA_if (fun _ => ?_) (fun _ => ?_)
      · refine dA_V (lo_zX4_fail_s24 f g q h) (fun q6 hq6 => ?_)
        exact lo_zX4_read_s24_s46_s25_93 f g k60 hk60 q6 x5 hq6
      · refine dA_V (lo_zX4_readClause_s24 f g q h) (fun q3 hq3 => ?_)
        exact lo_zX4_read_s24_s46_s25_93 f g k60 hk60 q3 x5 hq3
    · exact lo_zX4_read_s24_s46_s25_122 f g q h

theorem lo_zX4_read_s24_s46_s25_60 (f g : Nat → Int64) (n : Nat) (q : dK) (x5 : Int32) (h : Lo f g q) : dAll (zX4_read_s24_s46_s25_60 n q x5) (fun o => Lo f g o.2) := by
  unfold zX4_read_s24_s46_s25_60
  exact dA_fix (fun (a : dK × Int32) => Lo f g a.1) (fun k hk a ha => lo_zX4_read_s24_s46_s25_60b f g  _ (fun q x5 hq => hk (q, x5) hq) a.1 a.2 ha) n _ h

theorem lo_zX4_read_s24_s46_s25 (f g : Nat → Int64) (q : dK) (p2 : Int32) (p3 : Int32) (h : Lo f g q) : dAll (zX4_read_s24_s46_s25 q p2 p3) (fun o => Lo f g o.2) := by
  unfold zX4_read_s24_s46_s25
  refine dA_L (fun q1 e_1 => ?_)
  have hq1 : Lo f g q1 := by rw [e_1]; exact h
  refine dA_L (fun q2 e_2 => ?_)
  have hq2 : Lo f g q2 := by rw [e_2]; exact hq1
  refine dA_G (fun _ => ?_)
  refine dA_L (fun q4 e_3 => ?_)
  have hq4 : Lo f g q4 := by rw [e_3]; exact hq2
  refine dA_L (fun q5 e_4 => ?_)
  have hq5 : Lo f g q5 := by rw [e_4]; exact hq4
  refine dA_G (fun _ => ?_)
  refine dA_V (lo_zX7_clear_s25 f g q5 hq5) (fun q9 hq9 => ?_)
  refine dA_L (fun q10 e_5 => ?_)
  have hq10 : Lo f g q10 := by rw [e_5]; exact hq9
  refine dA_L (fun q11 e_6 => ?_)
  have hq11 : Lo f g q11 := by rw [e_6]; exact hq10
  refine dA_L (fun q12 e_7 => ?_)
  have hq12 : Lo f g q12 := by rw [e_7]; exact hq11
  refine dA_L (fun q13 e_8 => ?_)
  have hq13 : Lo f g q13 := by rw [e_8]; exact hq12
  refine dA_V (lo_zX4_step_s24 f g q13 hq13) (fun q16 hq16 => ?_)
  exact lo_zX4_read_s24_s46_s25_60 f g dF q16 0 hq16

theorem lo_zX7_copyOfIt_s25_34b (f g : Nat → Int64) (ns : Nat) (k34 : dK → Int32 → Int32 → Option (Int32 × dK)) (hk34 : ∀ (y0 : dK) (y1 : Int32) (y2 : Int32), Lo f g y0 → dAll (k34 y0 y1 y2) (fun o => Lo f g o.2)) (q : dK) (x1 : Int32) (x2 : Int32) (h : Lo f g q) : dAll (zX7_copyOfIt_s25_34b ns k34 q x1 x2) (fun o => Lo f g o.2) := by
  unfold zX7_copyOfIt_s25_34b
  simp only [txC_r, txL_r, txN_r, txK_r, txR_r]
  refine dA_if (fun _ => ?_) (fun _ => ?_)
  · refine dA_G (fun _ => ?_)
    refine dA_G (fun _ => ?_)
    refine dA_G (fun _ => ?_)
    refine dA_L (fun q4 e_1 => ?_)
    have hq4 : Lo f g q4 := by rw [e_1]; exact h
    exact dA_some hq4
  · refine dA_G (fun _ => ?_)
    refine dA_G (fun _ => ?_)
    refine dA_L (fun v7 e_2 => ?_)
    refine dA_G (fun _ => ?_)
    refine dA_G (fun _ => ?_)
    refine dA_L (fun q10 e_3 => ?_)
    have hq10 : Lo f g q10 := by rw [e_3]; exact h
    refine dA_G (fun _ => ?_)
    refine dA_G (fun _ => ?_)
    refine dA_L (fun v13 e_4 => ?_)
    refine dA_G (fun _ => ?_)
    refine dA_G (fun _ => ?_)
    refine dA_L (fun q16 e_5 => ?_)
    have hq16 : Lo f g q16 := by rw [e_5]; exact hq10
    refine dA_G (fun _ => ?_)
    refine dA_G (fun _ => ?_)
    refine dA_L (fun v19 e_6 => ?_)
    refine dA_G (fun _ => ?_)
    refine dA_G (fun _ => ?_)
    refine dA_L (fun q22 e_7 => ?_)
    have hq22 : Lo f g q22 := by rw [e_7]; exact hq16
    refine dA_G (fun _ => ?_)
    refine dA_G (fun _ => ?_)
    refine dA_L (fun v25 e_8 => ?_)
    refine dA_G (fun _ => ?_)
    refine dA_G (fun _ => ?_)
    refine dA_L (fun q28 e_9 => ?_)
    have hq28 : Lo f g q28 := by rw [e_9]; exact hq22
    refine dA_G (fun _ => ?_)
    refine dA_G (fun _ => ?_)
    refine dA_L (fun v31 e_10 => ?_)
    refine dA_G (fun _ => ?_)
    refine dA_G (fun _ => ?_)
    refine dA_L (fun q34 e_11 => ?_)
    have hq34 : Lo f g q34 := by rw [e_11]; exact hq28
    exact hk34 q34 x1 (x2 + 1) hq34

theorem lo_zX7_copyOfIt_s25_34 (f g : Nat → Int64) (ns : Nat) (n : Nat) (q : dK) (x1 : Int32) (x2 : Int32) (h : Lo f g q) : dAll (zX7_copyOfIt_s25_34 ns n q x1 x2) (fun o => Lo f g o.2) := by
  unfold zX7_copyOfIt_s25_34
  exact dA_fix (fun (a : dK × Int32 × Int32) => Lo f g a.1) (fun k hk a ha => lo_zX7_copyOfIt_s25_34b f g ns _ (fun q x1 x2 hq => hk (q, x1, x2) hq) a.1 a.2.1 a.2.2 ha) n _ h

theorem lo_zX7_copyOfIt_s25 (f g : Nat → Int64) (ns : Nat) (q : dK) (h : Lo f g q) : dAll (zX7_copyOfIt_s25 ns q) (fun o => Lo f g o.2) := by
  unfold zX7_copyOfIt_s25
  refine dA_G (fun _ => ?_)
  refine dA_G (fun _ => ?_)
  refine dA_L (fun q2 e_1 => ?_)
  have hq2 : Lo f g q2 := by rw [e_1]; exact h
  refine dA_G (fun _ => ?_)
  refine dA_L (fun q4 e_2 => ?_)
  have hq4 : Lo f g q4 := by rw [e_2]; exact hq2
  refine dA_G (fun _ => ?_)
  refine dA_L (fun q6 e_3 => ?_)
  have hq6 : Lo f g q6 := by rw [e_3]; exact hq4
  exact lo_zX7_copyOfIt_s25_34 f g ns dF q6 (Int32.ofNat (q.2.2.length + 1)) 0 hq6

theorem lo_zX9_law_s0 (f g : Nat → Int64) (ns : Nat) (q : dK) (h : Lo f g q) : dAll (zX9_law_s0 ns q) (fun o => Lo f g o.2) := by
  unfold zX9_law_s0
  refine dA_L (fun q1 e_1 => ?_)
  have hq1 : Lo f g q1 := by rw [e_1]; exact h
  refine dA_if (fun _ => ?_) (fun _ => ?_)
  · refine dA_B (lo_zX4_read_s24_s46_s25 f g q1 (q.1 0 12) 0 hq1) (fun r2 q4 hq4 => ?_)
    refine dA_L (fun q5 e_2 => ?_)
    have hq5 : Lo f g q5 := by rw [e_2]; exact hq4
    refine dA_if (fun _ => ?_) (fun _ => ?_)
    · refine dA_B (lo_zX7_copyOfIt_s25 f g ns q5 hq5) (fun r6 q8 hq8 => ?_)
      refine dA_G (fun _ => ?_)
      refine dA_G (fun _ => ?_)
      refine dA_G (fun _ => ?_)
      refine dA_L (fun q12 e_3 => ?_)
      have hq12 : Lo f g q12 := by rw [e_3]; exact hq8
      refine dA_L (fun q13 e_4 => ?_)
      have hq13 : Lo f g q13 := by rw [e_4]; exact hq12
      refine dA_B (lo_zX9_accept_s0 f g q13 ((q13.1 1 8) - 1 : Int32) hq13) (fun r14 q16 hq16 => ?_)
      exact dA_some hq16
    · refine dA_B (lo_zX9_refuse_s0 f g q5 (-6) hq5) (fun r17 q19 hq19 => ?_)
      exact dA_some hq19
  · refine dA_B (lo_zX9_refuse_s0 f g q1 (-5) hq1) (fun r20 q22 hq22 => ?_)
    exact dA_some hq22

theorem lo_zX8_pack_s2_8b (f g : Nat → Int64) (k8 : dK → Int64 → Int32 → Option (Int64 × dK)) (hk8 : ∀ (y0 : dK) (y1 : Int64) (y2 : Int32), Lo f g y0 → dAll (k8 y0 y1 y2) (fun o => Lo f g o.2)) (q : dK) (x1 : Int64) (x3 : Int32) (h : Lo f g q) : dAll (zX8_pack_s2_8b k8 q x1 x3) (fun o => Lo f g o.2) := by
  unfold zX8_pack_s2_8b
  refine dA_if (fun _ => ?_) (fun _ => ?_)
  · refine dA_L (fun v1 e_1 => ?_)
    refine dA_L (fun v2 e_2 => ?_)
    exact dA_some h
  · refine dA_G (fun _ => ?_)
    refine dA_L (fun v4 e_3 => ?_)
    refine dA_L (fun v5 e_4 => ?_)
    refine dA_G (fun _ => ?_)
    refine dA_L (fun v7 e_5 => ?_)
    exact hk8 q (v5 ||| (Int32.toInt64 v7) : Int64) (x3 + 1) h

theorem lo_zX8_pack_s2_8 (f g : Nat → Int64) (n : Nat) (q : dK) (x1 : Int64) (x3 : Int32) (h : Lo f g q) : dAll (zX8_pack_s2_8 n q x1 x3) (fun o => Lo f g o.2) := by
  unfold zX8_pack_s2_8
  exact dA_fix (fun (a : dK × Int64 × Int32) => Lo f g a.1) (fun k hk a ha => lo_zX8_pack_s2_8b f g  _ (fun q x1 x3 hq => hk (q, x1, x3) hq) a.1 a.2.1 a.2.2 ha) n _ h

theorem lo_zX8_pack_s2 (f g : Nat → Int64) (q : dK) (h : Lo f g q) : dAll (zX8_pack_s2 q) (fun o => Lo f g o.2) := by
  unfold zX8_pack_s2
  exact lo_zX8_pack_s2_8 f g dF q (Int32.toInt64 (q.1 2 2)) 0 h

theorem lo_zX8_anyBetween_s2_32 (f g : Nat → Int64) (k2 : dK → Int32 → Int32 → Int32 → Option (Int32 × dK)) (hk2 : ∀ (y0 : dK) (y1 : Int32) (y2 : Int32) (y3 : Int32), Lo f g y0 → dAll (k2 y0 y1 y2 y3) (fun o => Lo f g o.2)) (q : dK) (x1 : Int32) (x2 : Int32) (x3 : Int32) (h : Lo f g q) : dAll (zX8_anyBetween_s2_32 k2 q x1 x2 x3) (fun o => Lo f g o.2) := by
  unfold zX8_anyBetween_s2_32
  exact hk2 q x1 x2 (x3 + 1) h

theorem lo_zX8_anyBetween_s2_2b (f g : Nat → Int64) (k2 : dK → Int32 → Int32 → Int32 → Option (Int32 × dK)) (hk2 : ∀ (y0 : dK) (y1 : Int32) (y2 : Int32) (y3 : Int32), Lo f g y0 → dAll (k2 y0 y1 y2 y3) (fun o => Lo f g o.2)) (q : dK) (x1 : Int32) (x2 : Int32) (x3 : Int32) (h : Lo f g q) : dAll (zX8_anyBetween_s2_2b k2 q x1 x2 x3) (fun o => Lo f g o.2) := by
  unfold zX8_anyBetween_s2_2b
  refine dA_if (fun _ => ?_) (fun _ => ?_)
  · exact dA_some h
  · refine dA_G (fun _ => ?_)
    refine dA_L (fun v2 e_1 => ?_)
    refine dA_if (fun _ => ?_) (fun _ => ?_)
    · exact lo_zX8_anyBetween_s2_32 f g k2 hk2 q x1 x2 x3 h
    · refine dA_G (fun _ => ?_)
      refine dA_L (fun v4 e_2 => ?_)
      refine dA_if (fun _ => ?_) (fun _ => ?_)
      · exact lo_zX8_anyBetween_s2_32 f g k2 hk2 q x1 x2 x3 h
      · exact dA_some h

theorem lo_zX8_anyBetween_s2_2 (f g : Nat → Int64) (n : Nat) (q : dK) (x1 : Int32) (x2 : Int32) (x3 : Int32) (h : Lo f g q) : dAll (zX8_anyBetween_s2_2 n q x1 x2 x3) (fun o => Lo f g o.2) := by
  unfold zX8_anyBetween_s2_2
  exact dA_fix (fun (a : dK × Int32 × Int32 × Int32) => Lo f g a.1) (fun k hk a ha => lo_zX8_anyBetween_s2_2b f g  _ (fun q x1 x2 x3 hq => hk (q, x1, x2, x3) hq) a.1 a.2.1 a.2.2.1 a.2.2.2 ha) n _ h

theorem lo_zX8_anyBetween_s2 (f g : Nat → Int64) (q : dK) (p1 : Int32) (p2 : Int32) (h : Lo f g q) : dAll (zX8_anyBetween_s2 q p1 p2) (fun o => Lo f g o.2) := by
  unfold zX8_anyBetween_s2
  exact lo_zX8_anyBetween_s2_2 f g dF q p1 p2 0 h

theorem lo_zX8_gapCount_s2_97 (f g : Nat → Int64) (q : dK) (y0 : Int32) (h : Lo f g q) : dAll (zX8_gapCount_s2_97 q y0) (fun o => Lo f g o.2) := by
  unfold zX8_gapCount_s2_97
  exact dA_some h

theorem lo_zX8_gapCount_s2_4b (f g : Nat → Int64) (k4 : dK → Int32 → Int32 → Option (Int32 × dK)) (hk4 : ∀ (y0 : dK) (y1 : Int32) (y2 : Int32), Lo f g y0 → dAll (k4 y0 y1 y2) (fun o => Lo f g o.2)) (q : dK) (x1 : Int32) (x2 : Int32) (h : Lo f g q) : dAll (zX8_gapCount_s2_4b k4 q x1 x2) (fun o => Lo f g o.2) := by
  unfold zX8_gapCount_s2_4b
  refine dA_if (fun _ => ?_) (fun _ => ?_)
  · refine dA_if (fun _ => ?_) (fun _ => ?_)
    · exact lo_zX8_gapCount_s2_97 f g q 0 h
    · refine dA_G (fun _ => ?_)
      refine dA_L (fun v2 e_1 => ?_)
      refine dA_B (lo_zX8_anyBetween_s2 f g q v2 6 h) (fun r3 q5 hq5 => ?_)
      refine dA_V dA_tr (fun r6 _ => ?_)
      exact lo_zX8_gapCount_s2_97 f g q5 (x1 + r6) hq5
  · refine dA_G (fun _ => ?_)
    refine dA_L (fun v9 e_2 => ?_)
    refine dA_G (fun _ => ?_)
    refine dA_L (fun v11 e_3 => ?_)
    refine dA_G (fun _ => ?_)
    refine dA_L (fun v13 e_4 => ?_)
    refine dA_G (fun _ => ?_)
    refine dA_L (fun v15 e_5 => ?_)
    refine dA_B (lo_zX8_anyBetween_s2 f g q (mnI v9 v11) (mxI v13 v15) h) (fun r16 q18 hq18 => ?_)
    refine dA_V dA_tr (fun r19 _ => ?_)
    exact hk4 q18 (x1 + r19) (x2 + 1) hq18

theorem lo_zX8_gapCount_s2_4 (f g : Nat → Int64) (n : Nat) (q : dK) (x1 : Int32) (x2 : Int32) (h : Lo f g q) : dAll (zX8_gapCount_s2_4 n q x1 x2) (fun o => Lo f g o.2) := by
  unfold zX8_gapCount_s2_4
  exact dA_fix (fun (a : dK × Int32 × Int32) => Lo f g a.1) (fun k hk a ha => lo_zX8_gapCount_s2_4b f g  _ (fun q x1 x2 hq => hk (q, x1, x2) hq) a.1 a.2.1 a.2.2 ha) n _ h

theorem lo_zX8_gapCount_s2 (f g : Nat → Int64) (q : dK) (h : Lo f g q) : dAll (zX8_gapCount_s2 q) (fun o => Lo f g o.2) := by
  unfold zX8_gapCount_s2
  exact lo_zX8_gapCount_s2_4 f g dF q 0 0 h

theorem lo_zX5_setWords_s22_s2_52b (f g : Nat → Int64) (k52 : dK → Int32 → Option (dK)) (hk52 : ∀ (y0 : dK) (y1 : Int32), Lo f g y0 → dAll (k52 y0 y1) (fun o => Lo f g o)) (q : dK) (x2 : Int32) (h : Lo f g q) : dAll (zX5_setWords_s22_s2_52b k52 q x2) (fun o => Lo f g o) := by
  unfold zX5_setWords_s22_s2_52b
  refine dA_if (fun _ => ?_) (fun _ => ?_)
  · exact dA_some h
  · refine dA_B (lo_zX8_tell_s2 f g q x2 0 h) (fun r1 q3 hq3 => ?_)
    refine dA_G (fun _ => ?_)
    refine dA_L (fun q5 e_1 => ?_)
    have hq5 : Lo f g q5 := by rw [e_1]; exact hq3
    refine dA_B (lo_zX8_tell_s2 f g q5 x2 1 hq5) (fun r6 q8 hq8 => ?_)
    refine dA_G (fun _ => ?_)
    refine dA_L (fun q10 e_2 => ?_)
    have hq10 : Lo f g q10 := by rw [e_2]; exact hq8
    exact hk52 q10 (x2 + 1) hq10

theorem lo_zX5_setWords_s22_s2_52 (f g : Nat → Int64) (n : Nat) (q : dK) (x2 : Int32) (h : Lo f g q) : dAll (zX5_setWords_s22_s2_52 n q x2) (fun o => Lo f g o) := by
  unfold zX5_setWords_s22_s2_52
  exact dA_fix (fun (a : dK × Int32) => Lo f g a.1) (fun k hk a ha => lo_zX5_setWords_s22_s2_52b f g  _ (fun q x2 hq => hk (q, x2) hq) a.1 a.2 ha) n _ h

theorem lo_zX5_setWords_s22_s2 (f g : Nat → Int64) (q : dK) (h : Lo f g q) : dAll (zX5_setWords_s22_s2 q) (fun o => Lo f g o) := by
  unfold zX5_setWords_s22_s2
  refine dA_L (fun q1 e_1 => ?_)
  have hq1 : Lo f g q1 := by rw [e_1]; exact h
  refine dA_L (fun q2 e_2 => ?_)
  have hq2 : Lo f g q2 := by rw [e_2]; exact hq1
  refine dA_L (fun q3 e_3 => ?_)
  have hq3 : Lo f g q3 := by rw [e_3]; exact hq2
  refine dA_L (fun q4 e_4 => ?_)
  have hq4 : Lo f g q4 := by rw [e_4]; exact hq3
  refine dA_B (lo_zX8_gapCount_s2 f g q4 hq4) (fun r5 q7 hq7 => ?_)
  refine dA_L (fun q8 e_5 => ?_)
  have hq8 : Lo f g q8 := by rw [e_5]; exact hq7
  exact lo_zX5_setWords_s22_s2_52 f g dF q8 0 hq8

theorem lo_zX2_valueOf_s18_s25_s23_345 (f g : Nat → Int64) (q : dK) (y0 : Int32) (h : Lo f g q) : dAll (zX2_valueOf_s18_s25_s23_345 q y0) (fun o => Lo f g o.2) := by
  unfold zX2_valueOf_s18_s25_s23_345
  exact dA_some h

theorem lo_zX2_valueOf_s18_s25_s23_328 (f g : Nat → Int64) (q : dK) (h : Lo f g q) : dAll (zX2_valueOf_s18_s25_s23_328 q) (fun o => Lo f g o.2) := by
  unfold zX2_valueOf_s18_s25_s23_328
  refine dA_if (fun _ => ?_) (fun _ => ?_)
  · exact lo_zX2_valueOf_s18_s25_s23_345 f g q (q.1 19 0) h
  · exact lo_zX2_valueOf_s18_s25_s23_345 f g q 0 h

theorem lo_zX2_valueOf_s18_s25_s23_322 (f g : Nat → Int64) (k32 : dK → Int32 → Int32 → Int32 → Int32 → Option (Int32 × dK)) (hk32 : ∀ (y0 : dK) (y1 : Int32) (y2 : Int32) (y3 : Int32) (y4 : Int32), Lo f g y0 → dAll (k32 y0 y1 y2 y3 y4) (fun o => Lo f g o.2)) (q : dK) (x5 : Int32) (x6 : Int32) (x7 : Int32) (x8 : Int32) (h : Lo f g q) : dAll (zX2_valueOf_s18_s25_s23_322 k32 q x5 x6 x7 x8) (fun o => Lo f g o.2) := by
  unfold zX2_valueOf_s18_s25_s23_322
  exact hk32 q x5 x6 x7 (x8 + 1) h

theorem lo_zX2_valueOf_s18_s25_s23_281 (f g : Nat → Int64) (k32 : dK → Int32 → Int32 → Int32 → Int32 → Option (Int32 × dK)) (hk32 : ∀ (y0 : dK) (y1 : Int32) (y2 : Int32) (y3 : Int32) (y4 : Int32), Lo f g y0 → dAll (k32 y0 y1 y2 y3 y4) (fun o => Lo f g o.2)) (q : dK) (x6 : Int32) (x7 : Int32) (x8 : Int32) (y0 : Int32) (h : Lo f g q) : dAll (zX2_valueOf_s18_s25_s23_281 k32 q x6 x7 x8 y0) (fun o => Lo f g o.2) := by
  unfold zX2_valueOf_s18_s25_s23_281
  exact lo_zX2_valueOf_s18_s25_s23_322 f g k32 hk32 q y0 x6 x7 x8 h

theorem lo_zX2_valueOf_s18_s25_s23_265 (f g : Nat → Int64) (k32 : dK → Int32 → Int32 → Int32 → Int32 → Option (Int32 × dK)) (hk32 : ∀ (y0 : dK) (y1 : Int32) (y2 : Int32) (y3 : Int32) (y4 : Int32), Lo f g y0 → dAll (k32 y0 y1 y2 y3 y4) (fun o => Lo f g o.2)) (q : dK) (x5 : Int32) (x7 : Int32) (x8 : Int32) (x12 : Int32) (y0 : Int32) (h : Lo f g q) : dAll (zX2_valueOf_s18_s25_s23_265 k32 q x5 x7 x8 x12 y0) (fun o => Lo f g o.2) := by
  unfold zX2_valueOf_s18_s25_s23_265
  refine dA_if (fun _ => ?_) (fun _ => ?_)
  · exact lo_zX2_valueOf_s18_s25_s23_281 f g k32 hk32 q y0 x7 x8 (x5 - 1 : Int32) h
  · exact lo_zX2_valueOf_s18_s25_s23_281 f g k32 hk32 q y0 x7 x8 x5 h

theorem lo_zX2_valueOf_s18_s25_s23_251 (f g : Nat → Int64) (k32 : dK → Int32 → Int32 → Int32 → Int32 → Option (Int32 × dK)) (hk32 : ∀ (y0 : dK) (y1 : Int32) (y2 : Int32) (y3 : Int32) (y4 : Int32), Lo f g y0 → dAll (k32 y0 y1 y2 y3 y4) (fun o => Lo f g o.2)) (q : dK) (x5 : Int32) (x6 : Int32) (x7 : Int32) (x8 : Int32) (x10 : Int32) (y0 : Int32) (h : Lo f g q) : dAll (zX2_valueOf_s18_s25_s23_251 k32 q x5 x6 x7 x8 x10 y0) (fun o => Lo f g o.2) := by
  unfold zX2_valueOf_s18_s25_s23_251
  refine dA_if (fun _ => ?_) (fun _ => ?_)
  · exact lo_zX2_valueOf_s18_s25_s23_265 f g k32 hk32 q x5 x7 x8 y0 x6 h
  · exact lo_zX2_valueOf_s18_s25_s23_265 f g k32 hk32 q x5 x7 x8 y0 x10 h

theorem lo_zX2_valueOf_s18_s25_s23_243 (f g : Nat → Int64) (k32 : dK → Int32 → Int32 → Int32 → Int32 → Option (Int32 × dK)) (hk32 : ∀ (y0 : dK) (y1 : Int32) (y2 : Int32) (y3 : Int32) (y4 : Int32), Lo f g y0 → dAll (k32 y0 y1 y2 y3 y4) (fun o => Lo f g o.2)) (q : dK) (x5 : Int32) (x6 : Int32) (x7 : Int32) (x8 : Int32) (x10 : Int32) (y0 : Int32) (y1 : Int32) (h : Lo f g q) : dAll (zX2_valueOf_s18_s25_s23_243 k32 q x5 x6 x7 x8 x10 y0 y1) (fun o => Lo f g o.2) := by
  unfold zX2_valueOf_s18_s25_s23_243
  refine dA_if (fun _ => ?_) (fun _ => ?_)
  · exact lo_zX2_valueOf_s18_s25_s23_251 f g k32 hk32 q x5 x6 x7 x8 x10 1 h
  · exact lo_zX2_valueOf_s18_s25_s23_251 f g k32 hk32 q x5 x6 x7 x8 x10 0 h

theorem lo_zX2_valueOf_s18_s25_s23_222 (f g : Nat → Int64) (k32 : dK → Int32 → Int32 → Int32 → Int32 → Option (Int32 × dK)) (hk32 : ∀ (y0 : dK) (y1 : Int32) (y2 : Int32) (y3 : Int32) (y4 : Int32), Lo f g y0 → dAll (k32 y0 y1 y2 y3 y4) (fun o => Lo f g o.2)) (q : dK) (x5 : Int32) (x6 : Int32) (x7 : Int32) (x8 : Int32) (x9 : Int32) (x10 : Int32) (h : Lo f g q) : dAll (zX2_valueOf_s18_s25_s23_222 k32 q x5 x6 x7 x8 x9 x10) (fun o => Lo f g o.2) := by
  unfold zX2_valueOf_s18_s25_s23_222
  refine dA_G (fun _ => ?_)
  refine dA_L (fun v2 e_1 => ?_)
  refine dA_if (fun _ => ?_) (fun _ => ?_)
  · exact lo_zX2_valueOf_s18_s25_s23_243 f g k32 hk32 q x5 x6 x7 x8 x10 1 v2 h
  · exact lo_zX2_valueOf_s18_s25_s23_243 f g k32 hk32 q x5 x6 x7 x8 x10 0 v2 h

theorem lo_zX2_valueOf_s18_s25_s23_171 (f g : Nat → Int64) (k32 : dK → Int32 → Int32 → Int32 → Int32 → Option (Int32 × dK)) (hk32 : ∀ (y0 : dK) (y1 : Int32) (y2 : Int32) (y3 : Int32) (y4 : Int32), Lo f g y0 → dAll (k32 y0 y1 y2 y3 y4) (fun o => Lo f g o.2)) (q : dK) (x5 : Int32) (x6 : Int32) (x7 : Int32) (x8 : Int32) (y0 : Int32) (y1 : Int32) (h : Lo f g q) : dAll (zX2_valueOf_s18_s25_s23_171 k32 q x5 x6 x7 x8 y0 y1) (fun o => Lo f g o.2) := by
  unfold zX2_valueOf_s18_s25_s23_171
  refine dA_G (fun _ => ?_)
  refine dA_L (fun q2 e_1 => ?_)
  have hq2 : Lo f g q2 := by rw [e_1]; exact h
  exact lo_zX2_valueOf_s18_s25_s23_322 f g k32 hk32 q2 (x5 + 1) x6 x7 x8 hq2

theorem lo_zX2_valueOf_s18_s25_s23_150 (f g : Nat → Int64) (k32 : dK → Int32 → Int32 → Int32 → Int32 → Option (Int32 × dK)) (hk32 : ∀ (y0 : dK) (y1 : Int32) (y2 : Int32) (y3 : Int32) (y4 : Int32), Lo f g y0 → dAll (k32 y0 y1 y2 y3 y4) (fun o => Lo f g o.2)) (q : dK) (x5 : Int32) (x6 : Int32) (x7 : Int32) (x8 : Int32) (x9 : Int32) (x10 : Int32) (h : Lo f g q) : dAll (zX2_valueOf_s18_s25_s23_150 k32 q x5 x6 x7 x8 x9 x10) (fun o => Lo f g o.2) := by
  unfold zX2_valueOf_s18_s25_s23_150
  refine dA_if (fun _ => ?_) (fun _ => ?_)
  · exact lo_zX2_valueOf_s18_s25_s23_171 f g k32 hk32 q x5 x6 x7 x8 x10 x5 h
  · refine dA_G (fun _ => ?_)
    refine dA_L (fun v2 e_1 => ?_)
    exact lo_zX2_valueOf_s18_s25_s23_171 f g k32 hk32 q x5 x6 x7 x8 v2 x5 h

theorem lo_zX2_valueOf_s18_s25_s23_139 (f g : Nat → Int64) (k32 : dK → Int32 → Int32 → Int32 → Int32 → Option (Int32 × dK)) (hk32 : ∀ (y0 : dK) (y1 : Int32) (y2 : Int32) (y3 : Int32) (y4 : Int32), Lo f g y0 → dAll (k32 y0 y1 y2 y3 y4) (fun o => Lo f g o.2)) (q : dK) (x5 : Int32) (x6 : Int32) (x7 : Int32) (x8 : Int32) (x9 : Int32) (x10 : Int32) (h : Lo f g q) : dAll (zX2_valueOf_s18_s25_s23_139 k32 q x5 x6 x7 x8 x9 x10) (fun o => Lo f g o.2) := by
  unfold zX2_valueOf_s18_s25_s23_139
  refine dA_if (fun _ => ?_) (fun _ => ?_)
  · exact lo_zX2_valueOf_s18_s25_s23_150 f g k32 hk32 q x5 x6 x7 x8 x9 x10 h
  · refine dA_if (fun _ => ?_) (fun _ => ?_)
    · exact lo_zX2_valueOf_s18_s25_s23_150 f g k32 hk32 q x5 x6 x7 x8 x9 x10 h
    · refine dA_if (fun _ => ?_) (fun _ => ?_)
      · refine dA_G (fun _ => ?_)
        refine dA_L (fun v11 e_1 => ?_)
        refine dA_G (fun _ => ?_)
        refine dA_L (fun q13 e_2 => ?_)
        have hq13 : Lo f g q13 := by rw [e_2]; exact h
        exact lo_zX2_valueOf_s18_s25_s23_322 f g k32 hk32 q13 x5 x6 x7 x8 hq13
      · refine dA_if (fun _ => ?_) (fun _ => ?_)
        · exact lo_zX2_valueOf_s18_s25_s23_222 f g k32 hk32 q x5 x6 x7 x8 x9 x10 h
        · refine dA_if (fun _ => ?_) (fun _ => ?_)
          · exact lo_zX2_valueOf_s18_s25_s23_222 f g k32 hk32 q x5 x6 x7 x8 x9 x10 h
          · refine dA_G (fun _ => ?_)
            refine dA_L (fun v2 e_3 => ?_)
            refine dA_G (fun _ => ?_)
            refine dA_L (fun v4 e_4 => ?_)
            refine dA_B (lo_zX2_join_s18 f g q x9 (Int32.toInt64 v2) (Int32.toInt64 v4) h) (fun r5 q7 hq7 => ?_)
            refine dA_G (fun _ => ?_)
            refine dA_L (fun q9 e_5 => ?_)
            have hq9 : Lo f g q9 := by rw [e_5]; exact hq7
            exact lo_zX2_valueOf_s18_s25_s23_322 f g k32 hk32 q9 (x5 + (-1)) x6 x7 x8 hq9

theorem lo_zX2_valueOf_s18_s25_s23_131 (f g : Nat → Int64) (k32 : dK → Int32 → Int32 → Int32 → Int32 → Option (Int32 × dK)) (hk32 : ∀ (y0 : dK) (y1 : Int32) (y2 : Int32) (y3 : Int32) (y4 : Int32), Lo f g y0 → dAll (k32 y0 y1 y2 y3 y4) (fun o => Lo f g o.2)) (q : dK) (x5 : Int32) (x6 : Int32) (x7 : Int32) (x8 : Int32) (h : Lo f g q) : dAll (zX2_valueOf_s18_s25_s23_131 k32 q x5 x6 x7 x8) (fun o => Lo f g o.2) := by
  unfold zX2_valueOf_s18_s25_s23_131
  refine dA_L (fun q1 e_1 => ?_)
  have hq1 : Lo f g q1 := by rw [e_1]; exact h
  exact lo_zX2_valueOf_s18_s25_s23_322 f g k32 hk32 q1 x5 x6 x7 x8 hq1

theorem lo_zX2_valueOf_s18_s25_s23_98 (f g : Nat → Int64) (k32 : dK → Int32 → Int32 → Int32 → Int32 → Option (Int32 × dK)) (hk32 : ∀ (y0 : dK) (y1 : Int32) (y2 : Int32) (y3 : Int32) (y4 : Int32), Lo f g y0 → dAll (k32 y0 y1 y2 y3 y4) (fun o => Lo f g o.2)) (q : dK) (x5 : Int32) (x6 : Int32) (x7 : Int32) (x8 : Int32) (x9 : Int32) (x10 : Int32) (y0 : Int32) (h : Lo f g q) : dAll (zX2_valueOf_s18_s25_s23_98 k32 q x5 x6 x7 x8 x9 x10 y0) (fun o => Lo f g o.2) := by
  unfold zX2_valueOf_s18_s25_s23_98
  refine dA_if (fun _ => ?_) (fun _ => ?_)
  · exact lo_zX2_valueOf_s18_s25_s23_131 f g k32 hk32 q x5 (x6 + 1) x7 x8 h
  · refine dA_if (fun _ => ?_) (fun _ => ?_)
    · exact lo_zX2_valueOf_s18_s25_s23_131 f g k32 hk32 q x5 (x6 + 1) x7 x8 h
    · refine dA_if (fun _ => ?_) (fun _ => ?_)
      · refine dA_if (fun _ => ?_) (fun _ => ?_)
        · exact lo_zX2_valueOf_s18_s25_s23_139 f g k32 hk32 q x5 (x6 + 1) x7 x8 x9 x10 h
        · exact lo_zX2_valueOf_s18_s25_s23_131 f g k32 hk32 q x5 (x6 + 1) x7 x8 h
      · exact lo_zX2_valueOf_s18_s25_s23_139 f g k32 hk32 q x5 (x6 + 1) x7 x8 x9 x10 h

theorem lo_zX2_valueOf_s18_s25_s23_32b (f g : Nat → Int64) (k32 : dK → Int32 → Int32 → Int32 → Int32 → Option (Int32 × dK)) (hk32 : ∀ (y0 : dK) (y1 : Int32) (y2 : Int32) (y3 : Int32) (y4 : Int32), Lo f g y0 → dAll (k32 y0 y1 y2 y3 y4) (fun o => Lo f g o.2)) (q : dK) (x5 : Int32) (x6 : Int32) (x7 : Int32) (x8 : Int32) (h : Lo f g q) : dAll (zX2_valueOf_s18_s25_s23_32b k32 q x5 x6 x7 x8) (fun o => Lo f g o.2) := by
  unfold zX2_valueOf_s18_s25_s23_32b
  refine dA_if (fun _ => ?_) (fun _ => ?_)
  · exact lo_zX2_valueOf_s18_s25_s23_328 f g q h
  · refine dA_if (fun _ => ?_) (fun _ => ?_)
    · exact lo_zX2_valueOf_s18_s25_s23_328 f g q h
    · refine dA_if (fun _ => ?_) (fun _ => ?_)
      · refine dA_G (fun _ => ?_)
        refine dA_L (fun v2 e_1 => ?_)
        refine dA_G (fun _ => ?_)
        refine dA_L (fun v4 e_2 => ?_)
        refine dA_if (fun _ => ?_) (fun _ => ?_)
        · refine dA_if (fun _ => ?_) (fun _ => ?_)
          · exact lo_zX2_valueOf_s18_s25_s23_98 f g k32 hk32 q x5 x6 x7 x8 (v2 &&& 15 : Int32) (v4 >>> ((4 : Int32) &&& 31) : Int32) 1 h
          · exact lo_zX2_valueOf_s18_s25_s23_98 f g k32 hk32 q x5 x6 x7 x8 (v2 &&& 15 : Int32) (v4 >>> ((4 : Int32) &&& 31) : Int32) 2 h
        · exact lo_zX2_valueOf_s18_s25_s23_98 f g k32 hk32 q x5 x6 x7 x8 (v2 &&& 15 : Int32) (v4 >>> ((4 : Int32) &&& 31) : Int32) 0 h
      · exact lo_zX2_valueOf_s18_s25_s23_328 f g q h

theorem lo_zX2_valueOf_s18_s25_s23_32 (f g : Nat → Int64) (n : Nat) (q : dK) (x5 : Int32) (x6 : Int32) (x7 : Int32) (x8 : Int32) (h : Lo f g q) : dAll (zX2_valueOf_s18_s25_s23_32 n q x5 x6 x7 x8) (fun o => Lo f g o.2) := by
  unfold zX2_valueOf_s18_s25_s23_32
  exact dA_fix (fun (a : dK × Int32 × Int32 × Int32 × Int32) => Lo f g a.1) (fun k hk a ha => lo_zX2_valueOf_s18_s25_s23_32b f g  _ (fun q x5 x6 x7 x8 hq => hk (q, x5, x6, x7, x8) hq) a.1 a.2.1 a.2.2.1 a.2.2.2.1 a.2.2.2.2 ha) n _ h

theorem lo_zX2_valueOf_s18_s25_s23 (f g : Nat → Int64) (q : dK) (p2 : Int32) (p3 : Int32) (h : Lo f g q) : dAll (zX2_valueOf_s18_s25_s23 q p2 p3) (fun o => Lo f g o.2) := by
  unfold zX2_valueOf_s18_s25_s23
  refine dA_L (fun q1 e_1 => ?_)
  have hq1 : Lo f g q1 := by rw [e_1]; exact h
  refine dA_L (fun q2 e_2 => ?_)
  have hq2 : Lo f g q2 := by rw [e_2]; exact hq1
  exact lo_zX2_valueOf_s18_s25_s23_32 f g dF q2 0 p2 (mnI p3 400) p2 hq2

theorem lo_zX8_exchange_s2 (f g : Nat → Int64) (q : dK) (p1 : Int32) (p2 : Int32) (h : Lo f g q) : dAll (zX8_exchange_s2 q p1 p2) (fun o => Lo f g o) := by
  unfold zX8_exchange_s2
  refine dA_G (fun _ => ?_)
  refine dA_L (fun v2 e_1 => ?_)
  refine dA_G (fun _ => ?_)
  refine dA_L (fun v4 e_2 => ?_)
  refine dA_G (fun _ => ?_)
  refine dA_L (fun v6 e_3 => ?_)
  refine dA_G (fun _ => ?_)
  refine dA_L (fun q8 e_4 => ?_)
  have hq8 : Lo f g q8 := by rw [e_4]; exact h
  refine dA_G (fun _ => ?_)
  refine dA_L (fun v10 e_5 => ?_)
  refine dA_G (fun _ => ?_)
  refine dA_L (fun q12 e_6 => ?_)
  have hq12 : Lo f g q12 := by rw [e_6]; exact hq8
  refine dA_G (fun _ => ?_)
  refine dA_L (fun q14 e_7 => ?_)
  have hq14 : Lo f g q14 := by rw [e_7]; exact hq12
  refine dA_G (fun _ => ?_)
  refine dA_L (fun q16 e_8 => ?_)
  have hq16 : Lo f g q16 := by rw [e_8]; exact hq14
  exact dA_some hq16

theorem lo_zX8_turnTop_s2_s20_75b (f g : Nat → Int64) (k75 : dK → Int32 → Int32 → Int32 → Option (Int32 × dK)) (hk75 : ∀ (y0 : dK) (y1 : Int32) (y2 : Int32) (y3 : Int32), Lo f g y0 → dAll (k75 y0 y1 y2 y3) (fun o => Lo f g o.2)) (q : dK) (x1 : Int32) (x3 : Int32) (x4 : Int32) (h : Lo f g q) : dAll (zX8_turnTop_s2_s20_75b k75 q x1 x3 x4) (fun o => Lo f g o.2) := by
  unfold zX8_turnTop_s2_s20_75b
  refine dA_if (fun _ => ?_) (fun _ => ?_)
  · refine dA_L (fun q1 e_1 => ?_)
    have hq1 : Lo f g q1 := by rw [e_1]; exact h
    exact dA_some hq1
  · refine dA_G (fun _ => ?_)
    refine dA_L (fun v3 e_2 => ?_)
    refine dA_G (fun _ => ?_)
    refine dA_L (fun q5 e_3 => ?_)
    have hq5 : Lo f g q5 := by rw [e_3]; exact h
    exact hk75 q5 x1 x3 (x4 + 1) hq5

theorem lo_zX8_turnTop_s2_s20_75 (f g : Nat → Int64) (n : Nat) (q : dK) (x1 : Int32) (x3 : Int32) (x4 : Int32) (h : Lo f g q) : dAll (zX8_turnTop_s2_s20_75 n q x1 x3 x4) (fun o => Lo f g o.2) := by
  unfold zX8_turnTop_s2_s20_75
  exact dA_fix (fun (a : dK × Int32 × Int32 × Int32) => Lo f g a.1) (fun k hk a ha => lo_zX8_turnTop_s2_s20_75b f g  _ (fun q x1 x3 x4 hq => hk (q, x1, x3, x4) hq) a.1 a.2.1 a.2.2.1 a.2.2.2 ha) n _ h

theorem lo_zX8_turnTop_s2_s20_48b (f g : Nat → Int64) (k48 : dK → Int32 → Int32 → Int32 → Int32 → Option (Int32 × dK)) (hk48 : ∀ (y0 : dK) (y1 : Int32) (y2 : Int32) (y3 : Int32) (y4 : Int32), Lo f g y0 → dAll (k48 y0 y1 y2 y3 y4) (fun o => Lo f g o.2)) (q : dK) (x1 : Int32) (x3 : Int32) (x4 : Int32) (x5 : Int32) (h : Lo f g q) : dAll (zX8_turnTop_s2_s20_48b k48 q x1 x3 x4 x5) (fun o => Lo f g o.2) := by
  unfold zX8_turnTop_s2_s20_48b
  refine dA_if (fun _ => ?_) (fun _ => ?_)
  · exact lo_zX8_turnTop_s2_s20_75 f g dF q x1 x3 0 h
  · refine dA_V (lo_zX8_exchange_s2 f g q x4 x5 h) (fun q3 hq3 => ?_)
    exact hk48 q3 x1 x3 (x4 + 1) (x5 + (-1)) hq3

theorem lo_zX8_turnTop_s2_s20_48 (f g : Nat → Int64) (n : Nat) (q : dK) (x1 : Int32) (x3 : Int32) (x4 : Int32) (x5 : Int32) (h : Lo f g q) : dAll (zX8_turnTop_s2_s20_48 n q x1 x3 x4 x5) (fun o => Lo f g o.2) := by
  unfold zX8_turnTop_s2_s20_48
  exact dA_fix (fun (a : dK × Int32 × Int32 × Int32 × Int32) => Lo f g a.1) (fun k hk a ha => lo_zX8_turnTop_s2_s20_48b f g  _ (fun q x1 x3 x4 x5 hq => hk (q, x1, x3, x4, x5) hq) a.1 a.2.1 a.2.2.1 a.2.2.2.1 a.2.2.2.2 ha) n _ h

theorem lo_zX8_turnTop_s2_s20_30 (f g : Nat → Int64) (q : dK) (h : Lo f g q) : dAll (zX8_turnTop_s2_s20_30 q) (fun o => Lo f g o.2) := by
  unfold zX8_turnTop_s2_s20_30
  exact dA_some h

theorem lo_zX8_turnTop_s2_s20_11 (f g : Nat → Int64) (q : dK) (h : Lo f g q) : dAll (zX8_turnTop_s2_s20_11 q) (fun o => Lo f g o.2) := by
  unfold zX8_turnTop_s2_s20_11
  exact dA_some h

theorem lo_zX8_turnTop_s2_s20 (f g : Nat → Int64) (q : dK) (p1 : Int32) (h : Lo f g q) : dAll (zX8_turnTop_s2_s20 q p1) (fun o => Lo f g o.2) := by
  unfold zX8_turnTop_s2_s20
  refine dA_if (fun _ => ?_) (fun _ => ?_)
  · exact lo_zX8_turnTop_s2_s20_11 f g q h
  · refine dA_if (fun _ => ?_) (fun _ => ?_)
    · refine dA_if (fun _ => ?_) (fun _ => ?_)
      · exact lo_zX8_turnTop_s2_s20_30 f g q h
      · refine dA_B (lo_zX1_bars_s20_s2 f g q p1 h) (fun r1 q3 hq3 => ?_)
        refine dA_if (fun _ => ?_) (fun _ => ?_)
        · refine dA_B (lo_zX1_payOf_s20_s2 f g q3 p1 hq3) (fun r4 q6 hq6 => ?_)
          exact lo_zX8_turnTop_s2_s20_48 f g dF q6 p1 r4 0 (p1 - 1 : Int32) hq6
        · exact lo_zX8_turnTop_s2_s20_30 f g q3 hq3
    · exact lo_zX8_turnTop_s2_s20_11 f g q h

theorem lo_zX8_rightAt_s2_10 (f g : Nat → Int64) (q : dK) (h : Lo f g q) : dAll (zX8_rightAt_s2_10 q) (fun o => Lo f g o.2) := by
  unfold zX8_rightAt_s2_10
  exact dA_some h

theorem lo_zX8_rightAt_s2 (f g : Nat → Int64) (q : dK) (p1 : Int32) (h : Lo f g q) : dAll (zX8_rightAt_s2 q p1) (fun o => Lo f g o.2) := by
  unfold zX8_rightAt_s2
  refine dA_if (fun _ => ?_) (fun _ => ?_)
  · exact lo_zX8_rightAt_s2_10 f g q h
  · refine dA_if (fun _ => ?_) (fun _ => ?_)
    · refine dA_B (lo_zX8_isFloor_s2 f g q p1 h) (fun r1 q3 hq3 => ?_)
      refine dA_if (fun _ => ?_) (fun _ => ?_)
      · exact dA_some hq3
      · refine dA_G (fun _ => ?_)
        refine dA_L (fun v5 e_1 => ?_)
        refine dA_G (fun _ => ?_)
        refine dA_L (fun q7 e_2 => ?_)
        have hq7 : Lo f g q7 := by rw [e_2]; exact hq3
        refine dA_G (fun _ => ?_)
        refine dA_L (fun v9 e_3 => ?_)
        exact dA_some hq7
    · exact lo_zX8_rightAt_s2_10 f g q h

theorem lo_zX8_swapAt_s2_9 (f g : Nat → Int64) (q : dK) (h : Lo f g q) : dAll (zX8_swapAt_s2_9 q) (fun o => Lo f g o.2) := by
  unfold zX8_swapAt_s2_9
  exact dA_some h

theorem lo_zX8_swapAt_s2 (f g : Nat → Int64) (q : dK) (p1 : Int32) (h : Lo f g q) : dAll (zX8_swapAt_s2 q p1) (fun o => Lo f g o.2) := by
  unfold zX8_swapAt_s2
  refine dA_if (fun _ => ?_) (fun _ => ?_)
  · exact lo_zX8_swapAt_s2_9 f g q h
  · refine dA_if (fun _ => ?_) (fun _ => ?_)
    · refine dA_B (lo_zX8_isFloor_s2 f g q (p1 + 1 : Int32) h) (fun r1 q3 hq3 => ?_)
      refine dA_if (fun _ => ?_) (fun _ => ?_)
      · exact dA_some hq3
      · refine dA_V (lo_zX8_exchange_s2 f g q3 p1 (p1 + 1 : Int32) hq3) (fun q6 hq6 => ?_)
        refine dA_G (fun _ => ?_)
        refine dA_L (fun v8 e_1 => ?_)
        exact dA_some hq6
    · exact lo_zX8_swapAt_s2_9 f g q h

theorem lo_zX8_passYear_s2_s20_47b (f g : Nat → Int64) (k47 : dK → Int32 → Int32 → Option (Int32 × dK)) (hk47 : ∀ (y0 : dK) (y1 : Int32) (y2 : Int32), Lo f g y0 → dAll (k47 y0 y1 y2) (fun o => Lo f g o.2)) (q : dK) (x2 : Int32) (x3 : Int32) (h : Lo f g q) : dAll (zX8_passYear_s2_s20_47b k47 q x2 x3) (fun o => Lo f g o.2) := by
  unfold zX8_passYear_s2_s20_47b
  refine dA_if (fun _ => ?_) (fun _ => ?_)
  · refine dA_L (fun q1 e_1 => ?_)
    have hq1 : Lo f g q1 := by rw [e_1]; exact h
    refine dA_V dA_tr (fun r2 _ => ?_)
    exact dA_some hq1
  · refine dA_G (fun _ => ?_)
    refine dA_L (fun v5 e_2 => ?_)
    refine dA_G (fun _ => ?_)
    refine dA_L (fun q7 e_3 => ?_)
    have hq7 : Lo f g q7 := by rw [e_3]; exact h
    exact hk47 q7 x2 (x3 + 1) hq7

theorem lo_zX8_passYear_s2_s20_47 (f g : Nat → Int64) (n : Nat) (q : dK) (x2 : Int32) (x3 : Int32) (h : Lo f g q) : dAll (zX8_passYear_s2_s20_47 n q x2 x3) (fun o => Lo f g o.2) := by
  unfold zX8_passYear_s2_s20_47
  exact dA_fix (fun (a : dK × Int32 × Int32) => Lo f g a.1) (fun k hk a ha => lo_zX8_passYear_s2_s20_47b f g  _ (fun q x2 x3 hq => hk (q, x2, x3) hq) a.1 a.2.1 a.2.2 ha) n _ h

theorem lo_zX8_passYear_s2_s20_17b (f g : Nat → Int64) (k17 : dK → Int32 → Int32 → Option (Int32 × dK)) (hk17 : ∀ (y0 : dK) (y1 : Int32) (y2 : Int32), Lo f g y0 → dAll (k17 y0 y1 y2) (fun o => Lo f g o.2)) (q : dK) (x2 : Int32) (x3 : Int32) (h : Lo f g q) : dAll (zX8_passYear_s2_s20_17b k17 q x2 x3) (fun o => Lo f g o.2) := by
  unfold zX8_passYear_s2_s20_17b
  refine dA_if (fun _ => ?_) (fun _ => ?_)
  · exact lo_zX8_passYear_s2_s20_47 f g dF q x2 0 h
  · refine dA_B (lo_zX1_tips_s20_s2 f g q x3 h) (fun r1 q3 hq3 => ?_)
    refine dA_V dA_tr (fun r4 _ => ?_)
    exact hk17 q3 (x2 ||| (r4 <<< ((x3 : Int32) &&& 31))) (x3 + 1) hq3

theorem lo_zX8_passYear_s2_s20_17 (f g : Nat → Int64) (n : Nat) (q : dK) (x2 : Int32) (x3 : Int32) (h : Lo f g q) : dAll (zX8_passYear_s2_s20_17 n q x2 x3) (fun o => Lo f g o.2) := by
  unfold zX8_passYear_s2_s20_17
  exact dA_fix (fun (a : dK × Int32 × Int32) => Lo f g a.1) (fun k hk a ha => lo_zX8_passYear_s2_s20_17b f g  _ (fun q x2 x3 hq => hk (q, x2, x3) hq) a.1 a.2.1 a.2.2 ha) n _ h

theorem lo_zX8_passYear_s2_s20 (f g : Nat → Int64) (q : dK) (h : Lo f g q) : dAll (zX8_passYear_s2_s20 q) (fun o => Lo f g o.2) := by
  unfold zX8_passYear_s2_s20
  refine dA_if (fun _ => ?_) (fun _ => ?_)
  · exact lo_zX8_passYear_s2_s20_17 f g dF q 0 0 h
  · exact dA_some h

theorem lo_zX8_act_s2_s20 (f g : Nat → Int64) (q : dK) (p1 : Int32) (p2 : Int32) (h : Lo f g q) : dAll (zX8_act_s2_s20 q p1 p2) (fun o => Lo f g o.2) := by
  unfold zX8_act_s2_s20
  refine dA_if (fun _ => ?_) (fun _ => ?_)
  · refine dA_B (lo_zX8_turnTop_s2_s20 f g q p2 h) (fun r2 q4 hq4 => ?_)
    exact dA_some hq4
  · refine dA_if (fun _ => ?_) (fun _ => ?_)
    · refine dA_B (lo_zX8_rightAt_s2 f g q p2 h) (fun r6 q8 hq8 => ?_)
      exact dA_some hq8
    · refine dA_if (fun _ => ?_) (fun _ => ?_)
      · refine dA_B (lo_zX8_swapAt_s2 f g q p2 h) (fun r10 q12 hq12 => ?_)
        exact dA_some hq12
      · refine dA_if (fun _ => ?_) (fun _ => ?_)
        · refine dA_B (lo_zX8_passYear_s2_s20 f g q h) (fun r14 q16 hq16 => ?_)
          exact dA_some hq16
        · exact dA_some h

theorem lo_zX8_unpack_s2_31b (f g : Nat → Int64) (k31 : dK → Int64 → Int32 → Option (dK)) (hk31 : ∀ (y0 : dK) (y1 : Int64) (y2 : Int32), Lo f g y0 → dAll (k31 y0 y1 y2) (fun o => Lo f g o)) (q : dK) (x3 : Int64) (x5 : Int32) (h : Lo f g q) : dAll (zX8_unpack_s2_31b k31 q x3 x5) (fun o => Lo f g o) := by
  unfold zX8_unpack_s2_31b
  refine dA_if (fun _ => ?_) (fun _ => ?_)
  · refine dA_L (fun q1 e_1 => ?_)
    have hq1 : Lo f g q1 := by rw [e_1]; exact h
    exact dA_some hq1
  · refine dA_G (fun _ => ?_)
    refine dA_L (fun q3 e_2 => ?_)
    have hq3 : Lo f g q3 := by rw [e_2]; exact h
    refine dA_G (fun _ => ?_)
    refine dA_L (fun q5 e_3 => ?_)
    have hq5 : Lo f g q5 := by rw [e_3]; exact hq3
    exact hk31 q5 (x3 >>> (Int32.toInt64 (4 : Int32) &&& 63)) (x5 + (-1)) hq5

theorem lo_zX8_unpack_s2_31 (f g : Nat → Int64) (n : Nat) (q : dK) (x3 : Int64) (x5 : Int32) (h : Lo f g q) : dAll (zX8_unpack_s2_31 n q x3 x5) (fun o => Lo f g o) := by
  unfold zX8_unpack_s2_31
  exact dA_fix (fun (a : dK × Int64 × Int32) => Lo f g a.1) (fun k hk a ha => lo_zX8_unpack_s2_31b f g  _ (fun q x3 x5 hq => hk (q, x3, x5) hq) a.1 a.2.1 a.2.2 ha) n _ h

theorem lo_zX8_unpack_s2 (f g : Nat → Int64) (q : dK) (p1 : Int64) (h : Lo f g q) : dAll (zX8_unpack_s2 q p1) (fun o => Lo f g o) := by
  unfold zX8_unpack_s2
  refine dA_L (fun q1 e_1 => ?_)
  have hq1 : Lo f g q1 := by rw [e_1]; exact h
  refine dA_L (fun v2 e_2 => ?_)
  refine dA_L (fun q3 e_3 => ?_)
  have hq3 : Lo f g q3 := by rw [e_3]; exact hq1
  exact lo_zX8_unpack_s2_31 f g dF q3 (p1 >>> (Int32.toInt64 (24 : Int32) &&& 63)) 5 hq3

theorem lo_zX5_run_s22_s25_s2_s20_s10_208 (f g : Nat → Int64) (k24 : dK → Int64 → Int32 → Option (Int32 × dK)) (hk24 : ∀ (y0 : dK) (y1 : Int64) (y2 : Int32), Lo f g y0 → dAll (k24 y0 y1 y2) (fun o => Lo f g o.2)) (k36 : dK → Int64 → Int32 → Int32 → Option (Int32 × dK)) (hk36 : ∀ (y0 : dK) (y1 : Int64) (y2 : Int32) (y3 : Int32), Lo f g y0 → dAll (k36 y0 y1 y2 y3) (fun o => Lo f g o.2)) (q : dK) (x5 : Int64) (x7 : Int32) (x8 : Int32) (h : Lo f g q) : dAll (zX5_run_s22_s25_s2_s20_s10_208 k24 k36 q x5 x7 x8) (fun o => Lo f g o.2) := by
  unfold zX5_run_s22_s25_s2_s20_s10_208
  exact hk36 q x5 x7 (x8 + 1) h

theorem lo_zX5_run_s22_s25_s2_s20_s10_205 (f g : Nat → Int64) (k24 : dK → Int64 → Int32 → Option (Int32 × dK)) (hk24 : ∀ (y0 : dK) (y1 : Int64) (y2 : Int32), Lo f g y0 → dAll (k24 y0 y1 y2) (fun o => Lo f g o.2)) (k36 : dK → Int64 → Int32 → Int32 → Option (Int32 × dK)) (hk36 : ∀ (y0 : dK) (y1 : Int64) (y2 : Int32) (y3 : Int32), Lo f g y0 → dAll (k36 y0 y1 y2 y3) (fun o => Lo f g o.2)) (q : dK) (x5 : Int64) (x7 : Int32) (x8 : Int32) (y0 : Int32) (h : Lo f g q) : dAll (zX5_run_s22_s25_s2_s20_s10_205 k24 k36 q x5 x7 x8 y0) (fun o => Lo f g o.2) := by
  unfold zX5_run_s22_s25_s2_s20_s10_205
  refine dA_L (fun q1 e_1 => ?_)
  have hq1 : Lo f g q1 := by rw [e_1]; exact h
  exact lo_zX5_run_s22_s25_s2_s20_s10_208 f g k24 hk24 k36 hk36 q1 x5 x7 x8 hq1

theorem lo_zX9_orders_s0_109 (f g : Nat → Int64) (q : dK) (y0 : Int32) (h : Lo f g q) : dAll (zX9_orders_s0_109 q y0) (fun o => Lo f g o.2) := by
  unfold zX9_orders_s0_109
  exact dA_some h

theorem lo_zX9_fault_s0 (f g : Nat → Int64) (q : dK) (h : Lo f g q) : dAll (zX9_fault_s0 q) (fun o => Lo f g o.2) := by
  unfold zX9_fault_s0
  exact dA_some h

theorem lo_zX9_stopped_s0 (f g : Nat → Int64) (q : dK) (h : Lo f g q) : dAll (zX9_stopped_s0 q) (fun o => Lo f g o.2) := by
  unfold zX9_stopped_s0
  exact dA_some h

theorem lo_zX9_force_s0_23 (f g : Nat → Int64) (q : dK) (x1 : Int32) (h : Lo f g q) : dAll (zX9_force_s0_23 q x1) (fun o => Lo f g o.2) := by
  unfold zX9_force_s0_23
  refine dA_L (fun q1 e_1 => ?_)
  have hq1 : Lo f g q1 := by rw [e_1]; exact h
  refine dA_B (lo_zX9_accept_s0 f g q1 (q.1 1 9) hq1) (fun r2 q4 hq4 => ?_)
  exact dA_some hq4

theorem lo_zX9_force_s0 (f g : Nat → Int64) (q : dK) (p1 : Int32) (h : Lo f g q) : dAll (zX9_force_s0 q p1) (fun o => Lo f g o.2) := by
  unfold zX9_force_s0
  refine dA_if (fun _ => ?_) (fun _ => ?_)
  · exact lo_zX9_force_s0_23 f g q p1 h
  · refine dA_B (lo_zX6_isLaw_s1 f g q p1 h) (fun r1 q3 hq3 => ?_)
    refine dA_if (fun _ => ?_) (fun _ => ?_)
    · refine dA_B (lo_zX9_refuse_s0 f g q3 (-2) hq3) (fun r4 q6 hq6 => ?_)
      exact dA_some hq6
    · exact lo_zX9_force_s0_23 f g q3 p1 hq3

theorem lo_zX9_undo_s0 (f g : Nat → Int64) (q : dK) (h : Lo f g q) : dAll (zX9_undo_s0 q) (fun o => Lo f g o.2) := by
  unfold zX9_undo_s0
  refine dA_if (fun _ => ?_) (fun _ => ?_)
  · refine dA_L (fun q1 e_1 => ?_)
    have hq1 : Lo f g q1 := by rw [e_1]; exact h
    refine dA_G (fun _ => ?_)
    refine dA_L (fun v3 e_2 => ?_)
    refine dA_V (lo_zX8_unpack_s2 f g q1 v3 hq1) (fun q6 hq6 => ?_)
    refine dA_G (fun _ => ?_)
    refine dA_L (fun v8 e_3 => ?_)
    refine dA_B (lo_zX9_accept_s0 f g q6 v8 hq6) (fun r9 q11 hq11 => ?_)
    exact dA_some hq11
  · refine dA_B (lo_zX9_refuse_s0 f g q (-3) h) (fun r12 q14 hq14 => ?_)
    exact dA_some hq14

theorem lo_zX3_setDigits_s32_55 (f g : Nat → Int64) (k2 : dK → Int32 → Int32 → Option (dK)) (hk2 : ∀ (y0 : dK) (y1 : Int32) (y2 : Int32), Lo f g y0 → dAll (k2 y0 y1 y2) (fun o => Lo f g o)) (k25 : dK → Int32 → Int32 → Int32 → Int32 → Option (dK)) (hk25 : ∀ (y0 : dK) (y1 : Int32) (y2 : Int32) (y3 : Int32) (y4 : Int32), Lo f g y0 → dAll (k25 y0 y1 y2 y3 y4) (fun o => Lo f g o)) (q : dK) (x1 : Int32) (x2 : Int32) (x3 : Int32) (x4 : Int32) (y0 : Int32) (y1 : Int32) (y2 : Int32) (h : Lo f g q) : dAll (zX3_setDigits_s32_55 k2 k25 q x1 x2 x3 x4 y0 y1 y2) (fun o => Lo f g o) := by
  unfold zX3_setDigits_s32_55
  refine dA_V dA_tr (fun r1 _ => ?_)
  refine dA_G (fun _ => ?_)
  refine dA_L (fun q4 e_1 => ?_)
  have hq4 : Lo f g q4 := by rw [e_1]; exact h
  exact hk25 q4 x1 x2 x3 (x4 + 1) hq4

theorem lo_zX3_setDigits_s32_25b (f g : Nat → Int64) (k2 : dK → Int32 → Int32 → Option (dK)) (hk2 : ∀ (y0 : dK) (y1 : Int32) (y2 : Int32), Lo f g y0 → dAll (k2 y0 y1 y2) (fun o => Lo f g o)) (k25 : dK → Int32 → Int32 → Int32 → Int32 → Option (dK)) (hk25 : ∀ (y0 : dK) (y1 : Int32) (y2 : Int32) (y3 : Int32) (y4 : Int32), Lo f g y0 → dAll (k25 y0 y1 y2 y3 y4) (fun o => Lo f g o)) (q : dK) (x1 : Int32) (x2 : Int32) (x3 : Int32) (x4 : Int32) (h : Lo f g q) : dAll (zX3_setDigits_s32_25b k2 k25 q x1 x2 x3 x4) (fun o => Lo f g o) := by
  unfold zX3_setDigits_s32_25b
  refine dA_if (fun _ => ?_) (fun _ => ?_)
  · refine dA_G (fun _ => ?_)
    refine dA_L (fun q2 e_1 => ?_)
    have hq2 : Lo f g q2 := by rw [e_1]; exact h
    exact hk2 q2 x1 (x2 + 1) hq2
  · refine dA_G (fun _ => ?_)
    refine dA_L (fun v4 e_2 => ?_)
    refine dA_G (fun _ => ?_)
    refine dA_L (fun v6 e_3 => ?_)
    refine dA_if (fun _ => ?_) (fun _ => ?_)
    · exact lo_zX3_setDigits_s32_55 f g k2 hk2 k25 hk25 q x1 x2 x3 x4 0 v4 x4 h
    · exact lo_zX3_setDigits_s32_55 f g k2 hk2 k25 hk25 q x1 x2 x3 x4 1 v4 x4 h

theorem lo_zX3_setDigits_s32_25 (f g : Nat → Int64) (k2 : dK → Int32 → Int32 → Option (dK)) (hk2 : ∀ (y0 : dK) (y1 : Int32) (y2 : Int32), Lo f g y0 → dAll (k2 y0 y1 y2) (fun o => Lo f g o)) (n : Nat) (q : dK) (x1 : Int32) (x2 : Int32) (x3 : Int32) (x4 : Int32) (h : Lo f g q) : dAll (zX3_setDigits_s32_25 k2 n q x1 x2 x3 x4) (fun o => Lo f g o) := by
  unfold zX3_setDigits_s32_25
  exact dA_fix (fun (a : dK × Int32 × Int32 × Int32 × Int32) => Lo f g a.1) (fun k hk a ha => lo_zX3_setDigits_s32_25b f g k2 hk2 _ (fun q x1 x2 x3 x4 hq => hk (q, x1, x2, x3, x4) hq) a.1 a.2.1 a.2.2.1 a.2.2.2.1 a.2.2.2.2 ha) n _ h

theorem lo_zX3_setDigits_s32_2b (f g : Nat → Int64) (k2 : dK → Int32 → Int32 → Option (dK)) (hk2 : ∀ (y0 : dK) (y1 : Int32) (y2 : Int32), Lo f g y0 → dAll (k2 y0 y1 y2) (fun o => Lo f g o)) (q : dK) (x1 : Int32) (x2 : Int32) (h : Lo f g q) : dAll (zX3_setDigits_s32_2b k2 q x1 x2) (fun o => Lo f g o) := by
  unfold zX3_setDigits_s32_2b
  refine dA_if (fun _ => ?_) (fun _ => ?_)
  · exact dA_some h
  · refine dA_G (fun _ => ?_)
    refine dA_L (fun v2 e_1 => ?_)
    refine dA_G (fun _ => ?_)
    refine dA_G (fun _ => ?_)
    refine dA_L (fun v5 e_2 => ?_)
    exact lo_zX3_setDigits_s32_25 f g k2 hk2 dF q x1 x2 v5 0 h

theorem lo_zX3_setDigits_s32_2 (f g : Nat → Int64) (n : Nat) (q : dK) (x1 : Int32) (x2 : Int32) (h : Lo f g q) : dAll (zX3_setDigits_s32_2 n q x1 x2) (fun o => Lo f g o) := by
  unfold zX3_setDigits_s32_2
  exact dA_fix (fun (a : dK × Int32 × Int32) => Lo f g a.1) (fun k hk a ha => lo_zX3_setDigits_s32_2b f g  _ (fun q x1 x2 hq => hk (q, x1, x2) hq) a.1 a.2.1 a.2.2 ha) n _ h

theorem lo_zX3_setDigits_s32 (f g : Nat → Int64) (q : dK) (p1 : Int32) (h : Lo f g q) : dAll (zX3_setDigits_s32 q p1) (fun o => Lo f g o) := by
  unfold zX3_setDigits_s32
  exact lo_zX3_setDigits_s32_2 f g dF q p1 0 h

theorem lo_zX3_numberOfOrder_s32_43 (f g : Nat → Int64) (k4 : dK → Int32 → Int32 → Option (Int32 × dK)) (hk4 : ∀ (y0 : dK) (y1 : Int32) (y2 : Int32), Lo f g y0 → dAll (k4 y0 y1 y2) (fun o => Lo f g o.2)) (k15 : dK → Int32 → Int32 → Int32 → Int32 → Option (Int32 × dK)) (hk15 : ∀ (y0 : dK) (y1 : Int32) (y2 : Int32) (y3 : Int32) (y4 : Int32), Lo f g y0 → dAll (k15 y0 y1 y2 y3 y4) (fun o => Lo f g o.2)) (q : dK) (x1 : Int32) (x2 : Int32) (x4 : Int32) (y0 : Int32) (y1 : Int32) (h : Lo f g q) : dAll (zX3_numberOfOrder_s32_43 k4 k15 q x1 x2 x4 y0 y1) (fun o => Lo f g o.2) := by
  unfold zX3_numberOfOrder_s32_43
  refine dA_V dA_tr (fun r1 _ => ?_)
  exact hk15 q x1 x2 (y1 + r1) (x4 + 1) h

theorem lo_zX3_numberOfOrder_s32_15b (f g : Nat → Int64) (k4 : dK → Int32 → Int32 → Option (Int32 × dK)) (hk4 : ∀ (y0 : dK) (y1 : Int32) (y2 : Int32), Lo f g y0 → dAll (k4 y0 y1 y2) (fun o => Lo f g o.2)) (k15 : dK → Int32 → Int32 → Int32 → Int32 → Option (Int32 × dK)) (hk15 : ∀ (y0 : dK) (y1 : Int32) (y2 : Int32) (y3 : Int32) (y4 : Int32), Lo f g y0 → dAll (k15 y0 y1 y2 y3 y4) (fun o => Lo f g o.2)) (q : dK) (x1 : Int32) (x2 : Int32) (x3 : Int32) (x4 : Int32) (h : Lo f g q) : dAll (zX3_numberOfOrder_s32_15b k4 k15 q x1 x2 x3 x4) (fun o => Lo f g o.2) := by
  unfold zX3_numberOfOrder_s32_15b
  refine dA_if (fun _ => ?_) (fun _ => ?_)
  · refine dA_G (fun _ => ?_)
    refine dA_L (fun v2 e_1 => ?_)
    exact hk4 q (x1 + (x3 * v2)) (x2 + 1) h
  · refine dA_G (fun _ => ?_)
    refine dA_L (fun v4 e_2 => ?_)
    refine dA_G (fun _ => ?_)
    refine dA_L (fun v6 e_3 => ?_)
    refine dA_if (fun _ => ?_) (fun _ => ?_)
    · exact lo_zX3_numberOfOrder_s32_43 f g k4 hk4 k15 hk15 q x1 x2 x4 0 x3 h
    · exact lo_zX3_numberOfOrder_s32_43 f g k4 hk4 k15 hk15 q x1 x2 x4 1 x3 h

theorem lo_zX3_numberOfOrder_s32_15 (f g : Nat → Int64) (k4 : dK → Int32 → Int32 → Option (Int32 × dK)) (hk4 : ∀ (y0 : dK) (y1 : Int32) (y2 : Int32), Lo f g y0 → dAll (k4 y0 y1 y2) (fun o => Lo f g o.2)) (n : Nat) (q : dK) (x1 : Int32) (x2 : Int32) (x3 : Int32) (x4 : Int32) (h : Lo f g q) : dAll (zX3_numberOfOrder_s32_15 k4 n q x1 x2 x3 x4) (fun o => Lo f g o.2) := by
  unfold zX3_numberOfOrder_s32_15
  exact dA_fix (fun (a : dK × Int32 × Int32 × Int32 × Int32) => Lo f g a.1) (fun k hk a ha => lo_zX3_numberOfOrder_s32_15b f g k4 hk4 _ (fun q x1 x2 x3 x4 hq => hk (q, x1, x2, x3, x4) hq) a.1 a.2.1 a.2.2.1 a.2.2.2.1 a.2.2.2.2 ha) n _ h

theorem lo_zX3_numberOfOrder_s32_4b (f g : Nat → Int64) (k4 : dK → Int32 → Int32 → Option (Int32 × dK)) (hk4 : ∀ (y0 : dK) (y1 : Int32) (y2 : Int32), Lo f g y0 → dAll (k4 y0 y1 y2) (fun o => Lo f g o.2)) (q : dK) (x1 : Int32) (x2 : Int32) (h : Lo f g q) : dAll (zX3_numberOfOrder_s32_4b k4 q x1 x2) (fun o => Lo f g o.2) := by
  unfold zX3_numberOfOrder_s32_4b
  refine dA_if (fun _ => ?_) (fun _ => ?_)
  · exact dA_some h
  · exact lo_zX3_numberOfOrder_s32_15 f g k4 hk4 dF q x1 x2 0 0 h

theorem lo_zX3_numberOfOrder_s32_4 (f g : Nat → Int64) (n : Nat) (q : dK) (x1 : Int32) (x2 : Int32) (h : Lo f g q) : dAll (zX3_numberOfOrder_s32_4 n q x1 x2) (fun o => Lo f g o.2) := by
  unfold zX3_numberOfOrder_s32_4
  exact dA_fix (fun (a : dK × Int32 × Int32) => Lo f g a.1) (fun k hk a ha => lo_zX3_numberOfOrder_s32_4b f g  _ (fun q x1 x2 hq => hk (q, x1, x2) hq) a.1 a.2.1 a.2.2 ha) n _ h

theorem lo_zX3_numberOfOrder_s32 (f g : Nat → Int64) (q : dK) (h : Lo f g q) : dAll (zX3_numberOfOrder_s32 q) (fun o => Lo f g o.2) := by
  unfold zX3_numberOfOrder_s32
  exact lo_zX3_numberOfOrder_s32_4 f g dF q 0 0 h

theorem lo_zX3_listOrder_s32_60b (f g : Nat → Int64) (k40 : dK → Int32 → Int32 → Option (dK)) (hk40 : ∀ (y0 : dK) (y1 : Int32) (y2 : Int32), Lo f g y0 → dAll (k40 y0 y1 y2) (fun o => Lo f g o)) (k60 : dK → Int32 → Int32 → Int32 → Int32 → Option (dK)) (hk60 : ∀ (y0 : dK) (y1 : Int32) (y2 : Int32) (y3 : Int32) (y4 : Int32), Lo f g y0 → dAll (k60 y0 y1 y2 y3 y4) (fun o => Lo f g o)) (q : dK) (x1 : Int32) (x2 : Int32) (x3 : Int32) (x4 : Int32) (h : Lo f g q) : dAll (zX3_listOrder_s32_60b k40 k60 q x1 x2 x3 x4) (fun o => Lo f g o) := by
  unfold zX3_listOrder_s32_60b
  refine dA_if (fun _ => ?_) (fun _ => ?_)
  · refine dA_B (lo_zX3_numberOfOrder_s32 f g q h) (fun r1 q3 hq3 => ?_)
    refine dA_G (fun _ => ?_)
    refine dA_L (fun q5 e_1 => ?_)
    have hq5 : Lo f g q5 := by rw [e_1]; exact hq3
    exact hk40 q5 x1 (x2 + 1) hq5
  · refine dA_G (fun _ => ?_)
    refine dA_L (fun v7 e_2 => ?_)
    refine dA_G (fun _ => ?_)
    refine dA_L (fun v9 e_3 => ?_)
    refine dA_G (fun _ => ?_)
    refine dA_L (fun q11 e_4 => ?_)
    have hq11 : Lo f g q11 := by rw [e_4]; exact h
    refine dA_G (fun _ => ?_)
    refine dA_L (fun q13 e_5 => ?_)
    have hq13 : Lo f g q13 := by rw [e_5]; exact hq11
    exact hk60 q13 x1 x2 (x3 + 1) (x4 + (-1)) hq13

theorem lo_zX3_listOrder_s32_60 (f g : Nat → Int64) (k40 : dK → Int32 → Int32 → Option (dK)) (hk40 : ∀ (y0 : dK) (y1 : Int32) (y2 : Int32), Lo f g y0 → dAll (k40 y0 y1 y2) (fun o => Lo f g o)) (n : Nat) (q : dK) (x1 : Int32) (x2 : Int32) (x3 : Int32) (x4 : Int32) (h : Lo f g q) : dAll (zX3_listOrder_s32_60 k40 n q x1 x2 x3 x4) (fun o => Lo f g o) := by
  unfold zX3_listOrder_s32_60
  exact dA_fix (fun (a : dK × Int32 × Int32 × Int32 × Int32) => Lo f g a.1) (fun k hk a ha => lo_zX3_listOrder_s32_60b f g k40 hk40 _ (fun q x1 x2 x3 x4 hq => hk (q, x1, x2, x3, x4) hq) a.1 a.2.1 a.2.2.1 a.2.2.2.1 a.2.2.2.2 ha) n _ h

theorem lo_zX3_listOrder_s32_40b (f g : Nat → Int64) (k40 : dK → Int32 → Int32 → Option (dK)) (hk40 : ∀ (y0 : dK) (y1 : Int32) (y2 : Int32), Lo f g y0 → dAll (k40 y0 y1 y2) (fun o => Lo f g o)) (q : dK) (x1 : Int32) (x2 : Int32) (h : Lo f g q) : dAll (zX3_listOrder_s32_40b k40 q x1 x2) (fun o => Lo f g o) := by
  unfold zX3_listOrder_s32_40b
  refine dA_if (fun _ => ?_) (fun _ => ?_)
  · exact dA_some h
  · refine dA_V (lo_zX3_setDigits_s32 f g q x1 h) (fun q3 hq3 => ?_)
    exact lo_zX3_listOrder_s32_60 f g k40 hk40 dF q3 x1 x2 0 (x2 - 1 : Int32) hq3

theorem lo_zX3_listOrder_s32_40 (f g : Nat → Int64) (n : Nat) (q : dK) (x1 : Int32) (x2 : Int32) (h : Lo f g q) : dAll (zX3_listOrder_s32_40 n q x1 x2) (fun o => Lo f g o) := by
  unfold zX3_listOrder_s32_40
  exact dA_fix (fun (a : dK × Int32 × Int32) => Lo f g a.1) (fun k hk a ha => lo_zX3_listOrder_s32_40b f g  _ (fun q x1 x2 hq => hk (q, x1, x2) hq) a.1 a.2.1 a.2.2 ha) n _ h

theorem lo_zX3_listOrder_s32_7b (f g : Nat → Int64) (k7 : dK → Int32 → Int32 → Option (dK)) (hk7 : ∀ (y0 : dK) (y1 : Int32) (y2 : Int32), Lo f g y0 → dAll (k7 y0 y1 y2) (fun o => Lo f g o)) (q : dK) (x1 : Int32) (x2 : Int32) (h : Lo f g q) : dAll (zX3_listOrder_s32_7b k7 q x1 x2) (fun o => Lo f g o) := by
  unfold zX3_listOrder_s32_7b
  refine dA_if (fun _ => ?_) (fun _ => ?_)
  · exact lo_zX3_listOrder_s32_40 f g dF q x1 1 h
  · refine dA_G (fun _ => ?_)
    refine dA_L (fun v2 e_1 => ?_)
    refine dA_G (fun _ => ?_)
    refine dA_L (fun v4 e_2 => ?_)
    refine dA_G (fun _ => ?_)
    refine dA_L (fun q6 e_3 => ?_)
    have hq6 : Lo f g q6 := by rw [e_3]; exact h
    exact hk7 q6 x1 (x2 + 1) hq6

theorem lo_zX3_listOrder_s32_7 (f g : Nat → Int64) (n : Nat) (q : dK) (x1 : Int32) (x2 : Int32) (h : Lo f g q) : dAll (zX3_listOrder_s32_7 n q x1 x2) (fun o => Lo f g o) := by
  unfold zX3_listOrder_s32_7
  exact dA_fix (fun (a : dK × Int32 × Int32) => Lo f g a.1) (fun k hk a ha => lo_zX3_listOrder_s32_7b f g  _ (fun q x1 x2 hq => hk (q, x1, x2) hq) a.1 a.2.1 a.2.2 ha) n _ h

theorem lo_zX3_listOrder_s32 (f g : Nat → Int64) (q : dK) (p1 : Int32) (h : Lo f g q) : dAll (zX3_listOrder_s32 q p1) (fun o => Lo f g o) := by
  unfold zX3_listOrder_s32
  refine dA_V (lo_zX3_setDigits_s32 f g q p1 h) (fun q3 hq3 => ?_)
  exact lo_zX3_listOrder_s32_7 f g dF q3 p1 0 hq3

theorem lo_zX3_makeRoom_s32_125b (f g : Nat → Int64) (nc : Nat) (ns : Nat) (k113 : dK → Int32 → Option (dK)) (hk113 : ∀ (y0 : dK) (y1 : Int32), Lo f g y0 → dAll (k113 y0 y1) (fun o => Lo f g o)) (k125 : dK → Int32 → Int32 → Option (dK)) (hk125 : ∀ (y0 : dK) (y1 : Int32) (y2 : Int32), Lo f g y0 → dAll (k125 y0 y1 y2) (fun o => Lo f g o)) (q : dK) (x1 : Int32) (x2 : Int32) (h : Lo f g q) : dAll (zX3_makeRoom_s32_125b nc ns k113 k125 q x1 x2) (fun o => Lo f g o) := by
  unfold zX3_makeRoom_s32_125b
  refine dA_if (fun _ => ?_) (fun _ => ?_)
  · exact hk113 q (x1 + 1) h
  · refine dA_V dA_tr (fun r1 _ => ?_)
    refine dA_G (fun _ => ?_)
    refine dA_L (fun q4 e_1 => ?_)
    have hq4 : Lo f g q4 := by rw [e_1]; exact h
    exact hk125 q4 x1 (x2 + 1) hq4

theorem lo_zX3_makeRoom_s32_125 (f g : Nat → Int64) (nc : Nat) (ns : Nat) (k113 : dK → Int32 → Option (dK)) (hk113 : ∀ (y0 : dK) (y1 : Int32), Lo f g y0 → dAll (k113 y0 y1) (fun o => Lo f g o)) (n : Nat) (q : dK) (x1 : Int32) (x2 : Int32) (h : Lo f g q) : dAll (zX3_makeRoom_s32_125 nc ns k113 n q x1 x2) (fun o => Lo f g o) := by
  unfold zX3_makeRoom_s32_125
  exact dA_fix (fun (a : dK × Int32 × Int32) => Lo f g a.1) (fun k hk a ha => lo_zX3_makeRoom_s32_125b f g nc ns k113 hk113 _ (fun q x1 x2 hq => hk (q, x1, x2) hq) a.1 a.2.1 a.2.2 ha) n _ h

theorem lo_zX3_makeRoom_s32_113b (f g : Nat → Int64) (nc : Nat) (ns : Nat) (k113 : dK → Int32 → Option (dK)) (hk113 : ∀ (y0 : dK) (y1 : Int32), Lo f g y0 → dAll (k113 y0 y1) (fun o => Lo f g o)) (q : dK) (x1 : Int32) (h : Lo f g q) : dAll (zX3_makeRoom_s32_113b nc ns k113 q x1) (fun o => Lo f g o) := by
  unfold zX3_makeRoom_s32_113b
  refine dA_if (fun _ => ?_) (fun _ => ?_)
  · exact dA_some h
  · exact lo_zX3_makeRoom_s32_125 f g nc ns k113 hk113 dF q x1 1 h

theorem lo_zX3_makeRoom_s32_113 (f g : Nat → Int64) (nc : Nat) (ns : Nat) (n : Nat) (q : dK) (x1 : Int32) (h : Lo f g q) : dAll (zX3_makeRoom_s32_113 nc ns n q x1) (fun o => Lo f g o) := by
  unfold zX3_makeRoom_s32_113
  exact dA_fix (fun (a : dK × Int32) => Lo f g a.1) (fun k hk a ha => lo_zX3_makeRoom_s32_113b f g nc ns _ (fun q x1 hq => hk (q, x1) hq) a.1 a.2 ha) n _ h

theorem lo_zX3_makeRoom_s32_91b (f g : Nat → Int64) (nc : Nat) (ns : Nat) (k91 : dK → Int32 → Option (dK)) (hk91 : ∀ (y0 : dK) (y1 : Int32), Lo f g y0 → dAll (k91 y0 y1) (fun o => Lo f g o)) (q : dK) (x1 : Int32) (h : Lo f g q) : dAll (zX3_makeRoom_s32_91b nc ns k91 q x1) (fun o => Lo f g o) := by
  unfold zX3_makeRoom_s32_91b
  refine dA_if (fun _ => ?_) (fun _ => ?_)
  · exact lo_zX3_makeRoom_s32_113 f g nc ns dF q 0 h
  · refine dA_V (lo_zX3_listOrder_s32 f g q x1 h) (fun q3 hq3 => ?_)
    exact hk91 q3 (x1 + 1) hq3

theorem lo_zX3_makeRoom_s32_91 (f g : Nat → Int64) (nc : Nat) (ns : Nat) (n : Nat) (q : dK) (x1 : Int32) (h : Lo f g q) : dAll (zX3_makeRoom_s32_91 nc ns n q x1) (fun o => Lo f g o) := by
  unfold zX3_makeRoom_s32_91
  exact dA_fix (fun (a : dK × Int32) => Lo f g a.1) (fun k hk a ha => lo_zX3_makeRoom_s32_91b f g nc ns _ (fun q x1 hq => hk (q, x1) hq) a.1 a.2 ha) n _ h

theorem lo_zX3_makeRoom_s32 (f g : Nat → Int64) (nc : Nat) (ns : Nat) (q : dK) (h : Lo f g q) : dAll (zX3_makeRoom_s32 nc ns q) (fun o => Lo f g o) := by
  unfold zX3_makeRoom_s32
  refine dA_G (fun _ => ?_)
  refine dA_L (fun q2 e_1 => ?_)
  have hq2 : Lo f g q2 := by rw [e_1]; exact h
  refine dA_G (fun _ => ?_)
  refine dA_L (fun q4 e_2 => ?_)
  have hq4 : Lo f g q4 := by rw [e_2]; exact hq2
  refine dA_G (fun _ => ?_)
  refine dA_L (fun q6 e_3 => ?_)
  have hq6 : Lo f g q6 := by rw [e_3]; exact hq4
  refine dA_G (fun _ => ?_)
  refine dA_L (fun q8 e_4 => ?_)
  have hq8 : Lo f g q8 := by rw [e_4]; exact hq6
  refine dA_G (fun _ => ?_)
  refine dA_L (fun v10 e_5 => ?_)
  refine dA_G (fun _ => ?_)
  refine dA_L (fun q12 e_6 => ?_)
  have hq12 : Lo f g q12 := by rw [e_6]; exact hq8
  refine dA_G (fun _ => ?_)
  refine dA_L (fun v14 e_7 => ?_)
  refine dA_G (fun _ => ?_)
  refine dA_L (fun q16 e_8 => ?_)
  have hq16 : Lo f g q16 := by rw [e_8]; exact hq12
  refine dA_G (fun _ => ?_)
  refine dA_L (fun q18 e_9 => ?_)
  have hq18 : Lo f g q18 := by rw [e_9]; exact hq16
  refine dA_L (fun q19 e_10 => ?_)
  have hq19 : Lo f g q19 := by rw [e_10]; exact hq18
  exact lo_zX3_makeRoom_s32_91 f g nc ns dF q19 0 hq19

theorem lo_zX3_askCases_s32_s20_c1_173 (f g : Nat → Int64) (k36 : dK → Int32 → Int32 → Option (dK)) (hk36 : ∀ (y0 : dK) (y1 : Int32) (y2 : Int32), Lo f g y0 → dAll (k36 y0 y1 y2) (fun o => Lo f g o)) (k48 : dK → Int32 → Int32 → Int32 → Option (dK)) (hk48 : ∀ (y0 : dK) (y1 : Int32) (y2 : Int32) (y3 : Int32), Lo f g y0 → dAll (k48 y0 y1 y2 y3) (fun o => Lo f g o)) (k100 : dK → Int32 → Int32 → Int32 → Int32 → Int32 → Option (dK)) (hk100 : ∀ (y0 : dK) (y1 : Int32) (y2 : Int32) (y3 : Int32) (y4 : Int32) (y5 : Int32), Lo f g y0 → dAll (k100 y0 y1 y2 y3 y4 y5) (fun o => Lo f g o)) (k130 : dK → Int32 → Int32 → Int32 → Int32 → Int32 → Int32 → Int32 → Option (dK)) (hk130 : ∀ (y0 : dK) (y1 : Int32) (y2 : Int32) (y3 : Int32) (y4 : Int32) (y5 : Int32) (y6 : Int32) (y7 : Int32), Lo f g y0 → dAll (k130 y0 y1 y2 y3 y4 y5 y6 y7) (fun o => Lo f g o)) (q : dK) (x3 : Int32) (x5 : Int32) (x6 : Int32) (x8 : Int32) (x9 : Int32) (x10 : Int32) (x11 : Int32) (y0 : Int32) (h : Lo f g q) : dAll (zX3_askCases_s32_s20_c1_173 k36 k48 k100 k130 q x3 x5 x6 x8 x9 x10 x11 y0) (fun o => Lo f g o) := by
  unfold zX3_askCases_s32_s20_c1_173
  refine dA_V dA_tr (fun r1 _ => ?_)
  refine dA_G (fun _ => ?_)
  refine dA_L (fun q4 e_1 => ?_)
  have hq4 : Lo f g q4 := by rw [e_1]; exact h
  exact hk130 q4 x3 x5 x6 x8 x9 x10 (x11 + 1) hq4

theorem lo_zX3_askCases_s32_s20_c1_130b (f g : Nat → Int64) (k36 : dK → Int32 → Int32 → Option (dK)) (hk36 : ∀ (y0 : dK) (y1 : Int32) (y2 : Int32), Lo f g y0 → dAll (k36 y0 y1 y2) (fun o => Lo f g o)) (k48 : dK → Int32 → Int32 → Int32 → Option (dK)) (hk48 : ∀ (y0 : dK) (y1 : Int32) (y2 : Int32) (y3 : Int32), Lo f g y0 → dAll (k48 y0 y1 y2 y3) (fun o => Lo f g o)) (k100 : dK → Int32 → Int32 → Int32 → Int32 → Int32 → Option (dK)) (hk100 : ∀ (y0 : dK) (y1 : Int32) (y2 : Int32) (y3 : Int32) (y4 : Int32) (y5 : Int32), Lo f g y0 → dAll (k100 y0 y1 y2 y3 y4 y5) (fun o => Lo f g o)) (k130 : dK → Int32 → Int32 → Int32 → Int32 → Int32 → Int32 → Int32 → Option (dK)) (hk130 : ∀ (y0 : dK) (y1 : Int32) (y2 : Int32) (y3 : Int32) (y4 : Int32) (y5 : Int32) (y6 : Int32) (y7 : Int32), Lo f g y0 → dAll (k130 y0 y1 y2 y3 y4 y5 y6 y7) (fun o => Lo f g o)) (q : dK) (x3 : Int32) (x5 : Int32) (x6 : Int32) (x8 : Int32) (x9 : Int32) (x10 : Int32) (x11 : Int32) (h : Lo f g q) : dAll (zX3_askCases_s32_s20_c1_130b k36 k48 k100 k130 q x3 x5 x6 x8 x9 x10 x11) (fun o => Lo f g o) := by
  unfold zX3_askCases_s32_s20_c1_130b
  refine dA_if (fun _ => ?_) (fun _ => ?_)
  · exact hk100 q x3 x5 x6 x8 (x9 + 1) h
  · refine dA_G (fun _ => ?_)
    refine dA_L (fun v2 e_1 => ?_)
    refine dA_V (lo_zX1_setGrip_s20 f g q x5 v2 x10 x11 h) (fun q5 hq5 => ?_)
    refine dA_if (fun _ => ?_) (fun _ => ?_)
    · refine dA_B (lo_zX1_anyHolds_s20 f g q5 1 hq5) (fun r9 q11 hq11 => ?_)
      refine dA_V dA_tr (fun r12 _ => ?_)
      exact lo_zX3_askCases_s32_s20_c1_173 f g k36 hk36 k48 hk48 k100 hk100 k130 hk130 q11 x3 x5 x6 x8 x9 x10 x11 r12 hq11
    · refine dA_B (lo_zX1_pay_s20 f g q5 hq5) (fun r6 q8 hq8 => ?_)
      exact lo_zX3_askCases_s32_s20_c1_173 f g k36 hk36 k48 hk48 k100 hk100 k130 hk130 q8 x3 x5 x6 x8 x9 x10 x11 r6 hq8

theorem lo_zX3_askCases_s32_s20_c1_130 (f g : Nat → Int64) (k36 : dK → Int32 → Int32 → Option (dK)) (hk36 : ∀ (y0 : dK) (y1 : Int32) (y2 : Int32), Lo f g y0 → dAll (k36 y0 y1 y2) (fun o => Lo f g o)) (k48 : dK → Int32 → Int32 → Int32 → Option (dK)) (hk48 : ∀ (y0 : dK) (y1 : Int32) (y2 : Int32) (y3 : Int32), Lo f g y0 → dAll (k48 y0 y1 y2 y3) (fun o => Lo f g o)) (k100 : dK → Int32 → Int32 → Int32 → Int32 → Int32 → Option (dK)) (hk100 : ∀ (y0 : dK) (y1 : Int32) (y2 : Int32) (y3 : Int32) (y4 : Int32) (y5 : Int32), Lo f g y0 → dAll (k100 y0 y1 y2 y3 y4 y5) (fun o => Lo f g o)) (n : Nat) (q : dK) (x3 : Int32) (x5 : Int32) (x6 : Int32) (x8 : Int32) (x9 : Int32) (x10 : Int32) (x11 : Int32) (h : Lo f g q) : dAll (zX3_askCases_s32_s20_c1_130 k36 k48 k100 n q x3 x5 x6 x8 x9 x10 x11) (fun o => Lo f g o) := by
  unfold zX3_askCases_s32_s20_c1_130
  exact dA_fix (fun (a : dK × Int32 × Int32 × Int32 × Int32 × Int32 × Int32 × Int32) => Lo f g a.1) (fun k hk a ha => lo_zX3_askCases_s32_s20_c1_130b f g k36 hk36 k48 hk48 k100 hk100 _ (fun q x3 x5 x6 x8 x9 x10 x11 hq => hk (q, x3, x5, x6, x8, x9, x10, x11) hq) a.1 a.2.1 a.2.2.1 a.2.2.2.1 a.2.2.2.2.1 a.2.2.2.2.2.1 a.2.2.2.2.2.2.1 a.2.2.2.2.2.2.2 ha) n _ h

theorem lo_zX3_askCases_s32_s20_c1_125 (f g : Nat → Int64) (k36 : dK → Int32 → Int32 → Option (dK)) (hk36 : ∀ (y0 : dK) (y1 : Int32) (y2 : Int32), Lo f g y0 → dAll (k36 y0 y1 y2) (fun o => Lo f g o)) (k48 : dK → Int32 → Int32 → Int32 → Option (dK)) (hk48 : ∀ (y0 : dK) (y1 : Int32) (y2 : Int32) (y3 : Int32), Lo f g y0 → dAll (k48 y0 y1 y2 y3) (fun o => Lo f g o)) (k100 : dK → Int32 → Int32 → Int32 → Int32 → Int32 → Option (dK)) (hk100 : ∀ (y0 : dK) (y1 : Int32) (y2 : Int32) (y3 : Int32) (y4 : Int32) (y5 : Int32), Lo f g y0 → dAll (k100 y0 y1 y2 y3 y4 y5) (fun o => Lo f g o)) (q : dK) (x3 : Int32) (x5 : Int32) (x6 : Int32) (x8 : Int32) (x9 : Int32) (y0 : Int32) (h : Lo f g q) : dAll (zX3_askCases_s32_s20_c1_125 k36 k48 k100 q x3 x5 x6 x8 x9 y0) (fun o => Lo f g o) := by
  unfold zX3_askCases_s32_s20_c1_125
  exact lo_zX3_askCases_s32_s20_c1_130 f g k36 hk36 k48 hk48 k100 hk100 dF q x3 x5 x6 x8 x9 y0 0 h

theorem lo_zX3_askCases_s32_s20_c1_100b (f g : Nat → Int64) (k36 : dK → Int32 → Int32 → Option (dK)) (hk36 : ∀ (y0 : dK) (y1 : Int32) (y2 : Int32), Lo f g y0 → dAll (k36 y0 y1 y2) (fun o => Lo f g o)) (k48 : dK → Int32 → Int32 → Int32 → Option (dK)) (hk48 : ∀ (y0 : dK) (y1 : Int32) (y2 : Int32) (y3 : Int32), Lo f g y0 → dAll (k48 y0 y1 y2 y3) (fun o => Lo f g o)) (k100 : dK → Int32 → Int32 → Int32 → Int32 → Int32 → Option (dK)) (hk100 : ∀ (y0 : dK) (y1 : Int32) (y2 : Int32) (y3 : Int32) (y4 : Int32) (y5 : Int32), Lo f g y0 → dAll (k100 y0 y1 y2 y3 y4 y5) (fun o => Lo f g o)) (q : dK) (x3 : Int32) (x5 : Int32) (x6 : Int32) (x8 : Int32) (x9 : Int32) (h : Lo f g q) : dAll (zX3_askCases_s32_s20_c1_100b k36 k48 k100 q x3 x5 x6 x8 x9) (fun o => Lo f g o) := by
  unfold zX3_askCases_s32_s20_c1_100b
  refine dA_if (fun _ => ?_) (fun _ => ?_)
  · exact hk48 q x3 x5 (x6 + 1) h
  · refine dA_if (fun _ => ?_) (fun _ => ?_)
    · exact lo_zX3_askCases_s32_s20_c1_125 f g k36 hk36 k48 hk48 k100 hk100 q x3 x5 x6 x8 x9 (-1) h
    · refine dA_G (fun _ => ?_)
      refine dA_L (fun v2 e_1 => ?_)
      exact lo_zX3_askCases_s32_s20_c1_125 f g k36 hk36 k48 hk48 k100 hk100 q x3 x5 x6 x8 x9 v2 h

theorem lo_zX3_askCases_s32_s20_c1_100 (f g : Nat → Int64) (k36 : dK → Int32 → Int32 → Option (dK)) (hk36 : ∀ (y0 : dK) (y1 : Int32) (y2 : Int32), Lo f g y0 → dAll (k36 y0 y1 y2) (fun o => Lo f g o)) (k48 : dK → Int32 → Int32 → Int32 → Option (dK)) (hk48 : ∀ (y0 : dK) (y1 : Int32) (y2 : Int32) (y3 : Int32), Lo f g y0 → dAll (k48 y0 y1 y2 y3) (fun o => Lo f g o)) (n : Nat) (q : dK) (x3 : Int32) (x5 : Int32) (x6 : Int32) (x8 : Int32) (x9 : Int32) (h : Lo f g q) : dAll (zX3_askCases_s32_s20_c1_100 k36 k48 n q x3 x5 x6 x8 x9) (fun o => Lo f g o) := by
  unfold zX3_askCases_s32_s20_c1_100
  exact dA_fix (fun (a : dK × Int32 × Int32 × Int32 × Int32 × Int32) => Lo f g a.1) (fun k hk a ha => lo_zX3_askCases_s32_s20_c1_100b f g k36 hk36 k48 hk48 _ (fun q x3 x5 x6 x8 x9 hq => hk (q, x3, x5, x6, x8, x9) hq) a.1 a.2.1 a.2.2.1 a.2.2.2.1 a.2.2.2.2.1 a.2.2.2.2.2 ha) n _ h

theorem lo_zX3_askCases_s32_s20_c1_94 (f g : Nat → Int64) (k36 : dK → Int32 → Int32 → Option (dK)) (hk36 : ∀ (y0 : dK) (y1 : Int32) (y2 : Int32), Lo f g y0 → dAll (k36 y0 y1 y2) (fun o => Lo f g o)) (k48 : dK → Int32 → Int32 → Int32 → Option (dK)) (hk48 : ∀ (y0 : dK) (y1 : Int32) (y2 : Int32) (y3 : Int32), Lo f g y0 → dAll (k48 y0 y1 y2 y3) (fun o => Lo f g o)) (q : dK) (x3 : Int32) (x5 : Int32) (x6 : Int32) (x7 : Int32) (y0 : Int32) (h : Lo f g q) : dAll (zX3_askCases_s32_s20_c1_94 k36 k48 q x3 x5 x6 x7 y0) (fun o => Lo f g o) := by
  unfold zX3_askCases_s32_s20_c1_94
  exact lo_zX3_askCases_s32_s20_c1_100 f g k36 hk36 k48 hk48 dF q x3 x5 x6 y0 x7 h

theorem lo_zX3_askCases_s32_s20_c1_72 (f g : Nat → Int64) (k36 : dK → Int32 → Int32 → Option (dK)) (hk36 : ∀ (y0 : dK) (y1 : Int32) (y2 : Int32), Lo f g y0 → dAll (k36 y0 y1 y2) (fun o => Lo f g o)) (k48 : dK → Int32 → Int32 → Int32 → Option (dK)) (hk48 : ∀ (y0 : dK) (y1 : Int32) (y2 : Int32) (y3 : Int32), Lo f g y0 → dAll (k48 y0 y1 y2 y3) (fun o => Lo f g o)) (q : dK) (x3 : Int32) (x5 : Int32) (x6 : Int32) (y0 : Int32) (h : Lo f g q) : dAll (zX3_askCases_s32_s20_c1_72 k36 k48 q x3 x5 x6 y0) (fun o => Lo f g o) := by
  unfold zX3_askCases_s32_s20_c1_72
  refine dA_if (fun _ => ?_) (fun _ => ?_)
  · exact lo_zX3_askCases_s32_s20_c1_94 f g k36 hk36 k48 hk48 q x3 x5 x6 y0 6 h
  · exact lo_zX3_askCases_s32_s20_c1_94 f g k36 hk36 k48 hk48 q x3 x5 x6 y0 ((q.1 32 13) - 1 : Int32) h

theorem lo_zX3_askCases_s32_s20_c1_48b (f g : Nat → Int64) (k36 : dK → Int32 → Int32 → Option (dK)) (hk36 : ∀ (y0 : dK) (y1 : Int32) (y2 : Int32), Lo f g y0 → dAll (k36 y0 y1 y2) (fun o => Lo f g o)) (k48 : dK → Int32 → Int32 → Int32 → Option (dK)) (hk48 : ∀ (y0 : dK) (y1 : Int32) (y2 : Int32) (y3 : Int32), Lo f g y0 → dAll (k48 y0 y1 y2 y3) (fun o => Lo f g o)) (q : dK) (x3 : Int32) (x5 : Int32) (x6 : Int32) (h : Lo f g q) : dAll (zX3_askCases_s32_s20_c1_48b k36 k48 q x3 x5 x6) (fun o => Lo f g o) := by
  unfold zX3_askCases_s32_s20_c1_48b
  refine dA_if (fun _ => ?_) (fun _ => ?_)
  · exact hk36 q x3 (x5 + 1) h
  · refine dA_if (fun _ => ?_) (fun _ => ?_)
    · exact lo_zX3_askCases_s32_s20_c1_72 f g k36 hk36 k48 hk48 q x3 x5 x6 6 h
    · exact lo_zX3_askCases_s32_s20_c1_72 f g k36 hk36 k48 hk48 q x3 x5 x6 0 h

theorem lo_zX3_askCases_s32_s20_c1_48 (f g : Nat → Int64) (k36 : dK → Int32 → Int32 → Option (dK)) (hk36 : ∀ (y0 : dK) (y1 : Int32) (y2 : Int32), Lo f g y0 → dAll (k36 y0 y1 y2) (fun o => Lo f g o)) (n : Nat) (q : dK) (x3 : Int32) (x5 : Int32) (x6 : Int32) (h : Lo f g q) : dAll (zX3_askCases_s32_s20_c1_48 k36 n q x3 x5 x6) (fun o => Lo f g o) := by
  unfold zX3_askCases_s32_s20_c1_48
  exact dA_fix (fun (a : dK × Int32 × Int32 × Int32) => Lo f g a.1) (fun k hk a ha => lo_zX3_askCases_s32_s20_c1_48b f g k36 hk36 _ (fun q x3 x5 x6 hq => hk (q, x3, x5, x6) hq) a.1 a.2.1 a.2.2.1 a.2.2.2 ha) n _ h

theorem lo_zX3_askCases_s32_s20_c1_36b (f g : Nat → Int64) (k36 : dK → Int32 → Int32 → Option (dK)) (hk36 : ∀ (y0 : dK) (y1 : Int32) (y2 : Int32), Lo f g y0 → dAll (k36 y0 y1 y2) (fun o => Lo f g o)) (q : dK) (x3 : Int32) (x5 : Int32) (h : Lo f g q) : dAll (zX3_askCases_s32_s20_c1_36b k36 q x3 x5) (fun o => Lo f g o) := by
  unfold zX3_askCases_s32_s20_c1_36b
  refine dA_if (fun _ => ?_) (fun _ => ?_)
  · exact dA_some h
  · exact lo_zX3_askCases_s32_s20_c1_48 f g k36 hk36 dF q x3 x5 0 h

theorem lo_zX3_askCases_s32_s20_c1_36 (f g : Nat → Int64) (n : Nat) (q : dK) (x3 : Int32) (x5 : Int32) (h : Lo f g q) : dAll (zX3_askCases_s32_s20_c1_36 n q x3 x5) (fun o => Lo f g o) := by
  unfold zX3_askCases_s32_s20_c1_36
  exact dA_fix (fun (a : dK × Int32 × Int32) => Lo f g a.1) (fun k hk a ha => lo_zX3_askCases_s32_s20_c1_36b f g  _ (fun q x3 x5 hq => hk (q, x3, x5) hq) a.1 a.2.1 a.2.2 ha) n _ h

theorem lo_zX3_askCases_s32_s20_c1_16 (f g : Nat → Int64) (q : dK) (x2 : Int32) (x3 : Int32) (h : Lo f g q) : dAll (zX3_askCases_s32_s20_c1_16 q x2 x3) (fun o => Lo f g o) := by
  unfold zX3_askCases_s32_s20_c1_16
  refine dA_L (fun q1 e_1 => ?_)
  have hq1 : Lo f g q1 := by rw [e_1]; exact h
  refine dA_V (lo_zX1_setCommon_s20 f g q1 (q1.1 32 13) x2 hq1) (fun q4 hq4 => ?_)
  exact lo_zX3_askCases_s32_s20_c1_36 f g dF q4 x3 1 hq4

theorem lo_zX3_askCases_s32_s20_c1 (f g : Nat → Int64) (q : dK) (p2 : Int32) (h : Lo f g q) : dAll (zX3_askCases_s32_s20_c1 q p2) (fun o => Lo f g o) := by
  unfold zX3_askCases_s32_s20_c1
  exact lo_zX3_askCases_s32_s20_c1_16 f g q p2 1 h

theorem lo_zX3_indexOfRank_s32_2b (f g : Nat → Int64) (k2 : dK → Int32 → Int32 → Option (Int32 × dK)) (hk2 : ∀ (y0 : dK) (y1 : Int32) (y2 : Int32), Lo f g y0 → dAll (k2 y0 y1 y2) (fun o => Lo f g o.2)) (q : dK) (x1 : Int32) (x2 : Int32) (h : Lo f g q) : dAll (zX3_indexOfRank_s32_2b k2 q x1 x2) (fun o => Lo f g o.2) := by
  unfold zX3_indexOfRank_s32_2b
  refine dA_if (fun _ => ?_) (fun _ => ?_)
  · exact dA_some h
  · refine dA_G (fun _ => ?_)
    refine dA_L (fun v2 e_1 => ?_)
    refine dA_if (fun _ => ?_) (fun _ => ?_)
    · exact dA_some h
    · exact hk2 q x1 (x2 + 1) h

theorem lo_zX3_indexOfRank_s32_2 (f g : Nat → Int64) (n : Nat) (q : dK) (x1 : Int32) (x2 : Int32) (h : Lo f g q) : dAll (zX3_indexOfRank_s32_2 n q x1 x2) (fun o => Lo f g o.2) := by
  unfold zX3_indexOfRank_s32_2
  exact dA_fix (fun (a : dK × Int32 × Int32) => Lo f g a.1) (fun k hk a ha => lo_zX3_indexOfRank_s32_2b f g  _ (fun q x1 x2 hq => hk (q, x1, x2) hq) a.1 a.2.1 a.2.2 ha) n _ h

theorem lo_zX3_indexOfRank_s32 (f g : Nat → Int64) (q : dK) (p1 : Int32) (h : Lo f g q) : dAll (zX3_indexOfRank_s32 q p1) (fun o => Lo f g o.2) := by
  unfold zX3_indexOfRank_s32
  exact lo_zX3_indexOfRank_s32_2 f g dF q p1 0 h

theorem lo_zX3_lay_s32_s2_s20_163 (f g : Nat → Int64) (nc : Nat) (ns : Nat) (k99 : dK → Int32 → Int32 → Option (dK)) (hk99 : ∀ (y0 : dK) (y1 : Int32) (y2 : Int32), Lo f g y0 → dAll (k99 y0 y1 y2) (fun o => Lo f g o)) (q : dK) (x6 : Int32) (y0 : Int32) (y1 : Int32) (h : Lo f g q) : dAll (zX3_lay_s32_s2_s20_163 nc ns k99 q x6 y0 y1) (fun o => Lo f g o) := by
  unfold zX3_lay_s32_s2_s20_163
  exact hk99 q (y1 ||| y0) (x6 + 1) h

theorem lo_zX3_lay_s32_s2_s20_137 (f g : Nat → Int64) (nc : Nat) (ns : Nat) (k99 : dK → Int32 → Int32 → Option (dK)) (hk99 : ∀ (y0 : dK) (y1 : Int32) (y2 : Int32), Lo f g y0 → dAll (k99 y0 y1 y2) (fun o => Lo f g o)) (q : dK) (x5 : Int32) (x6 : Int32) (y0 : Int32) (y1 : Int32) (h : Lo f g q) : dAll (zX3_lay_s32_s2_s20_137 nc ns k99 q x5 x6 y0 y1) (fun o => Lo f g o) := by
  unfold zX3_lay_s32_s2_s20_137
  refine dA_G (fun _ => ?_)
  refine dA_L (fun q2 e_1 => ?_)
  have hq2 : Lo f g q2 := by rw [e_1]; exact h
  refine dA_if (fun _ => ?_) (fun _ => ?_)
  · exact lo_zX3_lay_s32_s2_s20_163 f g nc ns k99 hk99 q2 x6 0 x5 hq2
  · refine dA_G (fun _ => ?_)
    refine dA_L (fun v4 e_2 => ?_)
    exact lo_zX3_lay_s32_s2_s20_163 f g nc ns k99 hk99 q2 x6 (v4 <<< ((x6 : Int32) &&& 31)) x5 hq2

theorem lo_zX3_lay_s32_s2_s20_99b (f g : Nat → Int64) (nc : Nat) (ns : Nat) (k99 : dK → Int32 → Int32 → Option (dK)) (hk99 : ∀ (y0 : dK) (y1 : Int32) (y2 : Int32), Lo f g y0 → dAll (k99 y0 y1 y2) (fun o => Lo f g o)) (q : dK) (x5 : Int32) (x6 : Int32) (h : Lo f g q) : dAll (zX3_lay_s32_s2_s20_99b nc ns k99 q x5 x6) (fun o => Lo f g o) := by
  unfold zX3_lay_s32_s2_s20_99b
  refine dA_if (fun _ => ?_) (fun _ => ?_)
  · refine dA_B (lo_zX3_numberOfOrder_s32 f g q h) (fun r1 q3 hq3 => ?_)
    refine dA_L (fun q4 e_1 => ?_)
    have hq4 : Lo f g q4 := by rw [e_1]; exact hq3
    refine dA_V (lo_zX3_askCases_s32_s20_c1 f g q4 (q4.1 2 4) hq4) (fun q7 hq7 => ?_)
    exact dA_some hq7
  · refine dA_if (fun _ => ?_) (fun _ => ?_)
    · exact lo_zX3_lay_s32_s2_s20_137 f g nc ns k99 hk99 q x5 x6 x6 x6 h
    · refine dA_G (fun _ => ?_)
      refine dA_L (fun v9 e_2 => ?_)
      refine dA_B (lo_zX3_indexOfRank_s32 f g q v9 h) (fun r10 q12 hq12 => ?_)
      exact lo_zX3_lay_s32_s2_s20_137 f g nc ns k99 hk99 q12 x5 x6 r10 x6 hq12

theorem lo_zX3_lay_s32_s2_s20_99 (f g : Nat → Int64) (nc : Nat) (ns : Nat) (n : Nat) (q : dK) (x5 : Int32) (x6 : Int32) (h : Lo f g q) : dAll (zX3_lay_s32_s2_s20_99 nc ns n q x5 x6) (fun o => Lo f g o) := by
  unfold zX3_lay_s32_s2_s20_99
  exact dA_fix (fun (a : dK × Int32 × Int32) => Lo f g a.1) (fun k hk a ha => lo_zX3_lay_s32_s2_s20_99b f g nc ns _ (fun q x5 x6 hq => hk (q, x5, x6) hq) a.1 a.2.1 a.2.2 ha) n _ h

theorem lo_zX3_lay_s32_s2_s20_87 (f g : Nat → Int64) (nc : Nat) (ns : Nat) (k52 : dK → Int32 → Int32 → Option (dK)) (hk52 : ∀ (y0 : dK) (y1 : Int32) (y2 : Int32), Lo f g y0 → dAll (k52 y0 y1 y2) (fun o => Lo f g o)) (q : dK) (x4 : Int32) (x5 : Int32) (h : Lo f g q) : dAll (zX3_lay_s32_s2_s20_87 nc ns k52 q x4 x5) (fun o => Lo f g o) := by
  unfold zX3_lay_s32_s2_s20_87
  exact hk52 q x4 (x5 + 1) h

theorem lo_zX3_lay_s32_s2_s20_52b (f g : Nat → Int64) (nc : Nat) (ns : Nat) (k52 : dK → Int32 → Int32 → Option (dK)) (hk52 : ∀ (y0 : dK) (y1 : Int32) (y2 : Int32), Lo f g y0 → dAll (k52 y0 y1 y2) (fun o => Lo f g o)) (q : dK) (x4 : Int32) (x5 : Int32) (h : Lo f g q) : dAll (zX3_lay_s32_s2_s20_52b nc ns k52 q x4 x5) (fun o => Lo f g o) := by
  unfold zX3_lay_s32_s2_s20_52b
  refine dA_if (fun _ => ?_) (fun _ => ?_)
  · exact lo_zX3_lay_s32_s2_s20_99 f g nc ns dF q 0 0 h
  · refine dA_B (lo_zX8_has_s2 f g q x5 h) (fun r1 q3 hq3 => ?_)
    refine dA_if (fun _ => ?_) (fun _ => ?_)
    · exact lo_zX3_lay_s32_s2_s20_87 f g nc ns k52 hk52 q3 x4 x5 hq3
    · refine dA_if (fun _ => ?_) (fun _ => ?_)
      · exact lo_zX3_lay_s32_s2_s20_87 f g nc ns k52 hk52 q3 x4 x5 hq3
      · refine dA_G (fun _ => ?_)
        refine dA_L (fun q5 e_1 => ?_)
        have hq5 : Lo f g q5 := by rw [e_1]; exact hq3
        exact lo_zX3_lay_s32_s2_s20_87 f g nc ns k52 hk52 q5 (x4 + 1) x5 hq5

theorem lo_zX3_lay_s32_s2_s20_52 (f g : Nat → Int64) (nc : Nat) (ns : Nat) (n : Nat) (q : dK) (x4 : Int32) (x5 : Int32) (h : Lo f g q) : dAll (zX3_lay_s32_s2_s20_52 nc ns n q x4 x5) (fun o => Lo f g o) := by
  unfold zX3_lay_s32_s2_s20_52
  exact dA_fix (fun (a : dK × Int32 × Int32) => Lo f g a.1) (fun k hk a ha => lo_zX3_lay_s32_s2_s20_52b f g nc ns _ (fun q x4 x5 hq => hk (q, x4, x5) hq) a.1 a.2.1 a.2.2 ha) n _ h

theorem lo_zX3_lay_s32_s2_s20_46 (f g : Nat → Int64) (nc : Nat) (ns : Nat) (q : dK) (h : Lo f g q) : dAll (zX3_lay_s32_s2_s20_46 nc ns q) (fun o => Lo f g o) := by
  unfold zX3_lay_s32_s2_s20_46
  exact lo_zX3_lay_s32_s2_s20_52 f g nc ns dF q 0 0 h

theorem lo_zX3_lay_s32_s2_s20 (f g : Nat → Int64) (nc : Nat) (ns : Nat) (q : dK) (p3 : Int32) (h : Lo f g q) : dAll (zX3_lay_s32_s2_s20 nc ns q p3) (fun o => Lo f g o) := by
  unfold zX3_lay_s32_s2_s20
  refine dA_L (fun q1 e_1 => ?_)
  have hq1 : Lo f g q1 := by rw [e_1]; exact h
  refine dA_L (fun q2 e_2 => ?_)
  have hq2 : Lo f g q2 := by rw [e_2]; exact hq1
  refine dA_G (fun _ => ?_)
  refine dA_L (fun v4 e_3 => ?_)
  refine dA_L (fun q5 e_4 => ?_)
  have hq5 : Lo f g q5 := by rw [e_4]; exact hq2
  refine dA_if (fun _ => ?_) (fun _ => ?_)
  · exact lo_zX3_lay_s32_s2_s20_46 f g nc ns q5 hq5
  · refine dA_V (lo_zX3_makeRoom_s32 f g nc ns q5 hq5) (fun q8 hq8 => ?_)
    exact lo_zX3_lay_s32_s2_s20_46 f g nc ns q8 hq8

theorem lo_zX9_spread_s0_s20 (f g : Nat → Int64) (nc : Nat) (ns : Nat) (q : dK) (h : Lo f g q) : dAll (zX9_spread_s0_s20 nc ns q) (fun o => Lo f g o) := by
  unfold zX9_spread_s0_s20
  refine dA_V (lo_zX3_lay_s32_s2_s20 f g nc ns q (q.1 1 3) h) (fun q3 hq3 => ?_)
  exact dA_some hq3

theorem lo_zX3_sameBars_s32_2b (f g : Nat → Int64) (k2 : dK → Int32 → Option (Int32 × dK)) (hk2 : ∀ (y0 : dK) (y1 : Int32), Lo f g y0 → dAll (k2 y0 y1) (fun o => Lo f g o.2)) (q : dK) (x1 : Int32) (h : Lo f g q) : dAll (zX3_sameBars_s32_2b k2 q x1) (fun o => Lo f g o.2) := by
  unfold zX3_sameBars_s32_2b
  refine dA_if (fun _ => ?_) (fun _ => ?_)
  · exact dA_some h
  · refine dA_G (fun _ => ?_)
    refine dA_L (fun v2 e_1 => ?_)
    refine dA_G (fun _ => ?_)
    refine dA_L (fun v4 e_2 => ?_)
    refine dA_if (fun _ => ?_) (fun _ => ?_)
    · exact hk2 q (x1 + 1) h
    · exact dA_some h

theorem lo_zX3_sameBars_s32_2 (f g : Nat → Int64) (n : Nat) (q : dK) (x1 : Int32) (h : Lo f g q) : dAll (zX3_sameBars_s32_2 n q x1) (fun o => Lo f g o.2) := by
  unfold zX3_sameBars_s32_2
  exact dA_fix (fun (a : dK × Int32) => Lo f g a.1) (fun k hk a ha => lo_zX3_sameBars_s32_2b f g  _ (fun q x1 hq => hk (q, x1) hq) a.1 a.2 ha) n _ h

theorem lo_zX3_sameBars_s32 (f g : Nat → Int64) (q : dK) (h : Lo f g q) : dAll (zX3_sameBars_s32 q) (fun o => Lo f g o.2) := by
  unfold zX3_sameBars_s32
  exact lo_zX3_sameBars_s32_2 f g dF q 0 h

theorem lo_zX3_isOrdered_s32_34 (f g : Nat → Int64) (q : dK) (y0 : Int32) (h : Lo f g q) : dAll (zX3_isOrdered_s32_34 q y0) (fun o => Lo f g o.2) := by
  unfold zX3_isOrdered_s32_34
  refine dA_G (fun _ => ?_)
  exact dA_some h

theorem lo_zX3_isOrdered_s32 (f g : Nat → Int64) (q : dK) (p1 : Int32) (h : Lo f g q) : dAll (zX3_isOrdered_s32 q p1) (fun o => Lo f g o.2) := by
  unfold zX3_isOrdered_s32
  refine dA_if (fun _ => ?_) (fun _ => ?_)
  · refine dA_if (fun _ => ?_) (fun _ => ?_)
    · exact lo_zX3_isOrdered_s32_34 f g q 1 h
    · exact lo_zX3_isOrdered_s32_34 f g q 0 h
  · refine dA_if (fun _ => ?_) (fun _ => ?_)
    · exact lo_zX3_isOrdered_s32_34 f g q 1 h
    · exact lo_zX3_isOrdered_s32_34 f g q 0 h

theorem lo_zX3_turned_s32_84 (f g : Nat → Int64) (q : dK) (y0 : Int32) (h : Lo f g q) : dAll (zX3_turned_s32_84 q y0) (fun o => Lo f g o.2) := by
  unfold zX3_turned_s32_84
  exact dA_some h

theorem lo_zX3_turned_s32_13 (f g : Nat → Int64) (q : dK) (x1 : Int32) (h : Lo f g q) : dAll (zX3_turned_s32_13 q x1) (fun o => Lo f g o.2) := by
  unfold zX3_turned_s32_13
  exact dA_some h

theorem lo_zX3_turned_s32 (f g : Nat → Int64) (q : dK) (p1 : Int32) (p2 : Int32) (h : Lo f g q) : dAll (zX3_turned_s32 q p1 p2) (fun o => Lo f g o.2) := by
  unfold zX3_turned_s32
  refine dA_if (fun _ => ?_) (fun _ => ?_)
  · exact lo_zX3_turned_s32_13 f g q p1 h
  · refine dA_if (fun _ => ?_) (fun _ => ?_)
    · refine dA_L (fun v1 e_1 => ?_)
      refine dA_L (fun v2 e_2 => ?_)
      refine dA_G (fun _ => ?_)
      refine dA_L (fun v4 e_3 => ?_)
      refine dA_G (fun _ => ?_)
      refine dA_L (fun v6 e_4 => ?_)
      refine dA_if (fun _ => ?_) (fun _ => ?_)
      · exact lo_zX3_turned_s32_84 f g q p1 h
      · exact lo_zX3_turned_s32_84 f g q ((v4 <<< ((q.1 32 13 : Int32) &&& 31)) ||| v6) h
    · exact lo_zX3_turned_s32_13 f g q p1 h

theorem lo_zX3_caseOf_s32_33 (f g : Nat → Int64) (q : dK) (x1 : Int32) (x2 : Int32) (x3 : Int32) (y0 : Int32) (h : Lo f g q) : dAll (zX3_caseOf_s32_33 q x1 x2 x3 y0) (fun o => Lo f g o.2) := by
  unfold zX3_caseOf_s32_33
  refine dA_V dA_tr (fun r1 _ => ?_)
  exact dA_some h

theorem lo_zX3_caseOf_s32 (f g : Nat → Int64) (q : dK) (p1 : Int32) (p2 : Int32) (h : Lo f g q) : dAll (zX3_caseOf_s32 q p1 p2) (fun o => Lo f g o.2) := by
  unfold zX3_caseOf_s32
  refine dA_G (fun _ => ?_)
  refine dA_L (fun v2 e_1 => ?_)
  refine dA_if (fun _ => ?_) (fun _ => ?_)
  · exact lo_zX3_caseOf_s32_33 f g q p1 p2 v2 6 h
  · exact lo_zX3_caseOf_s32_33 f g q p1 p2 v2 ((v2 >>> (((3 * p2 : Int32) : Int32) &&& 31)) &&& 7 : Int32) h

theorem lo_zX3_measure_s32_197 (f g : Nat → Int64) (q : dK) (h : Lo f g q) : dAll (zX3_measure_s32_197 q) (fun o => Lo f g o) := by
  unfold zX3_measure_s32_197
  refine dA_L (fun q1 e_1 => ?_)
  have hq1 : Lo f g q1 := by rw [e_1]; exact h
  refine dA_L (fun q2 e_2 => ?_)
  have hq2 : Lo f g q2 := by rw [e_2]; exact hq1
  refine dA_L (fun q3 e_3 => ?_)
  have hq3 : Lo f g q3 := by rw [e_3]; exact hq2
  exact dA_some hq3

theorem lo_zX3_measure_s32_185 (f g : Nat → Int64) (k83 : dK → Int32 → Int32 → Option (dK)) (hk83 : ∀ (y0 : dK) (y1 : Int32) (y2 : Int32), Lo f g y0 → dAll (k83 y0 y1 y2) (fun o => Lo f g o)) (k106 : dK → Int32 → Int32 → Int32 → Int32 → Option (dK)) (hk106 : ∀ (y0 : dK) (y1 : Int32) (y2 : Int32) (y3 : Int32) (y4 : Int32), Lo f g y0 → dAll (k106 y0 y1 y2 y3 y4) (fun o => Lo f g o)) (q : dK) (x1 : Int32) (x2 : Int32) (x3 : Int32) (x4 : Int32) (h : Lo f g q) : dAll (zX3_measure_s32_185 k83 k106 q x1 x2 x3 x4) (fun o => Lo f g o) := by
  unfold zX3_measure_s32_185
  exact hk106 q x1 x2 x3 (x4 + 1) h

theorem lo_zX3_measure_s32_106b (f g : Nat → Int64) (k83 : dK → Int32 → Int32 → Option (dK)) (hk83 : ∀ (y0 : dK) (y1 : Int32) (y2 : Int32), Lo f g y0 → dAll (k83 y0 y1 y2) (fun o => Lo f g o)) (k106 : dK → Int32 → Int32 → Int32 → Int32 → Option (dK)) (hk106 : ∀ (y0 : dK) (y1 : Int32) (y2 : Int32) (y3 : Int32) (y4 : Int32), Lo f g y0 → dAll (k106 y0 y1 y2 y3 y4) (fun o => Lo f g o)) (q : dK) (x1 : Int32) (x2 : Int32) (x3 : Int32) (x4 : Int32) (h : Lo f g q) : dAll (zX3_measure_s32_106b k83 k106 q x1 x2 x3 x4) (fun o => Lo f g o) := by
  unfold zX3_measure_s32_106b
  refine dA_if (fun _ => ?_) (fun _ => ?_)
  · exact hk83 q x1 (x2 + 1) h
  · refine dA_B (lo_zX3_turned_s32 f g q x3 x4 h) (fun r1 q3 hq3 => ?_)
    refine dA_G (fun _ => ?_)
    refine dA_L (fun v5 e_1 => ?_)
    refine dA_if (fun _ => ?_) (fun _ => ?_)
    · refine dA_B (lo_zX3_caseOf_s32 f g q3 r1 x4 hq3) (fun r6 q8 hq8 => ?_)
      refine dA_G (fun _ => ?_)
      refine dA_L (fun v10 e_2 => ?_)
      refine dA_if (fun _ => ?_) (fun _ => ?_)
      · refine dA_if (fun _ => ?_) (fun _ => ?_)
        · exact lo_zX3_measure_s32_185 f g k83 hk83 k106 hk106 q8 x1 x2 x3 x4 hq8
        · refine dA_G (fun _ => ?_)
          refine dA_L (fun v12 e_3 => ?_)
          refine dA_G (fun _ => ?_)
          refine dA_L (fun q14 e_4 => ?_)
          have hq14 : Lo f g q14 := by rw [e_4]; exact hq8
          refine dA_G (fun _ => ?_)
          refine dA_L (fun q16 e_5 => ?_)
          have hq16 : Lo f g q16 := by rw [e_5]; exact hq14
          exact lo_zX3_measure_s32_185 f g k83 hk83 k106 hk106 q16 (x1 + 1) x2 x3 x4 hq16
      · exact lo_zX3_measure_s32_185 f g k83 hk83 k106 hk106 q8 x1 x2 x3 x4 hq8
    · exact lo_zX3_measure_s32_185 f g k83 hk83 k106 hk106 q3 x1 x2 x3 x4 hq3

theorem lo_zX3_measure_s32_106 (f g : Nat → Int64) (k83 : dK → Int32 → Int32 → Option (dK)) (hk83 : ∀ (y0 : dK) (y1 : Int32) (y2 : Int32), Lo f g y0 → dAll (k83 y0 y1 y2) (fun o => Lo f g o)) (n : Nat) (q : dK) (x1 : Int32) (x2 : Int32) (x3 : Int32) (x4 : Int32) (h : Lo f g q) : dAll (zX3_measure_s32_106 k83 n q x1 x2 x3 x4) (fun o => Lo f g o) := by
  unfold zX3_measure_s32_106
  exact dA_fix (fun (a : dK × Int32 × Int32 × Int32 × Int32) => Lo f g a.1) (fun k hk a ha => lo_zX3_measure_s32_106b f g k83 hk83 _ (fun q x1 x2 x3 x4 hq => hk (q, x1, x2, x3, x4) hq) a.1 a.2.1 a.2.2.1 a.2.2.2.1 a.2.2.2.2 ha) n _ h

theorem lo_zX3_measure_s32_83b (f g : Nat → Int64) (k83 : dK → Int32 → Int32 → Option (dK)) (hk83 : ∀ (y0 : dK) (y1 : Int32) (y2 : Int32), Lo f g y0 → dAll (k83 y0 y1 y2) (fun o => Lo f g o)) (q : dK) (x1 : Int32) (x2 : Int32) (h : Lo f g q) : dAll (zX3_measure_s32_83b k83 q x1 x2) (fun o => Lo f g o) := by
  unfold zX3_measure_s32_83b
  refine dA_if (fun _ => ?_) (fun _ => ?_)
  · exact lo_zX3_measure_s32_197 f g q h
  · refine dA_if (fun _ => ?_) (fun _ => ?_)
    · exact lo_zX3_measure_s32_197 f g q h
    · refine dA_G (fun _ => ?_)
      refine dA_L (fun v2 e_1 => ?_)
      exact lo_zX3_measure_s32_106 f g k83 hk83 dF q x1 x2 v2 1 h

theorem lo_zX3_measure_s32_83 (f g : Nat → Int64) (n : Nat) (q : dK) (x1 : Int32) (x2 : Int32) (h : Lo f g q) : dAll (zX3_measure_s32_83 n q x1 x2) (fun o => Lo f g o) := by
  unfold zX3_measure_s32_83
  exact dA_fix (fun (a : dK × Int32 × Int32) => Lo f g a.1) (fun k hk a ha => lo_zX3_measure_s32_83b f g  _ (fun q x1 x2 hq => hk (q, x1, x2) hq) a.1 a.2.1 a.2.2 ha) n _ h

theorem lo_zX3_measure_s32_81 (f g : Nat → Int64) (q : dK) (x1 : Int32) (h : Lo f g q) : dAll (zX3_measure_s32_81 q x1) (fun o => Lo f g o) := by
  unfold zX3_measure_s32_81
  exact lo_zX3_measure_s32_83 f g dF q x1 0 h

theorem lo_zX3_measure_s32_42b (f g : Nat → Int64) (k42 : dK → Int32 → Int32 → Option (dK)) (hk42 : ∀ (y0 : dK) (y1 : Int32) (y2 : Int32), Lo f g y0 → dAll (k42 y0 y1 y2) (fun o => Lo f g o)) (q : dK) (x1 : Int32) (x2 : Int32) (h : Lo f g q) : dAll (zX3_measure_s32_42b k42 q x1 x2) (fun o => Lo f g o) := by
  unfold zX3_measure_s32_42b
  refine dA_if (fun _ => ?_) (fun _ => ?_)
  · exact lo_zX3_measure_s32_81 f g q x1 h
  · refine dA_B (lo_zX3_isOrdered_s32 f g q x2 h) (fun r1 q3 hq3 => ?_)
    refine dA_if (fun _ => ?_) (fun _ => ?_)
    · exact lo_zX3_measure_s32_81 f g q3 x1 hq3
    · refine dA_G (fun _ => ?_)
      refine dA_L (fun q5 e_1 => ?_)
      have hq5 : Lo f g q5 := by rw [e_1]; exact hq3
      refine dA_G (fun _ => ?_)
      refine dA_L (fun q7 e_2 => ?_)
      have hq7 : Lo f g q7 := by rw [e_2]; exact hq5
      exact hk42 q7 (x1 + 1) (x2 + 1) hq7

theorem lo_zX3_measure_s32_42 (f g : Nat → Int64) (n : Nat) (q : dK) (x1 : Int32) (x2 : Int32) (h : Lo f g q) : dAll (zX3_measure_s32_42 n q x1 x2) (fun o => Lo f g o) := by
  unfold zX3_measure_s32_42
  exact dA_fix (fun (a : dK × Int32 × Int32) => Lo f g a.1) (fun k hk a ha => lo_zX3_measure_s32_42b f g  _ (fun q x1 x2 hq => hk (q, x1, x2) hq) a.1 a.2.1 a.2.2 ha) n _ h

theorem lo_zX3_measure_s32_30 (f g : Nat → Int64) (q : dK) (h : Lo f g q) : dAll (zX3_measure_s32_30 q) (fun o => Lo f g o) := by
  unfold zX3_measure_s32_30
  refine dA_L (fun q1 e_1 => ?_)
  have hq1 : Lo f g q1 := by rw [e_1]; exact h
  exact lo_zX3_measure_s32_42 f g dF q1 0 0 hq1

theorem lo_zX3_measure_s32 (f g : Nat → Int64) (q : dK) (h : Lo f g q) : dAll (zX3_measure_s32 q) (fun o => Lo f g o) := by
  unfold zX3_measure_s32
  refine dA_if (fun _ => ?_) (fun _ => ?_)
  · refine dA_if (fun _ => ?_) (fun _ => ?_)
    · refine dA_B (lo_zX3_sameBars_s32 f g q h) (fun r1 q3 hq3 => ?_)
      refine dA_if (fun _ => ?_) (fun _ => ?_)
      · exact lo_zX3_measure_s32_30 f g q3 hq3
      · exact dA_some hq3
    · exact lo_zX3_measure_s32_30 f g q h
  · exact lo_zX3_measure_s32_30 f g q h

theorem lo_zX3_isCloser_s32_50 (f g : Nat → Int64) (q : dK) (y0 : Int32) (h : Lo f g q) : dAll (zX3_isCloser_s32_50 q y0) (fun o => Lo f g o.2) := by
  unfold zX3_isCloser_s32_50
  refine dA_G (fun _ => ?_)
  exact dA_some h

theorem lo_zX3_isCloser_s32_49 (f g : Nat → Int64) (q : dK) (h : Lo f g q) : dAll (zX3_isCloser_s32_49 q) (fun o => Lo f g o.2) := by
  unfold zX3_isCloser_s32_49
  exact lo_zX3_isCloser_s32_50 f g q 0 h

theorem lo_zX3_isCloser_s32 (f g : Nat → Int64) (q : dK) (p1 : Int32) (p2 : Int32) (h : Lo f g q) : dAll (zX3_isCloser_s32 q p1 p2) (fun o => Lo f g o.2) := by
  unfold zX3_isCloser_s32
  refine dA_B (lo_zX3_turned_s32 f g q p1 p2 h) (fun r1 q3 hq3 => ?_)
  refine dA_G (fun _ => ?_)
  refine dA_L (fun v5 e_1 => ?_)
  refine dA_G (fun _ => ?_)
  refine dA_L (fun v7 e_2 => ?_)
  refine dA_if (fun _ => ?_) (fun _ => ?_)
  · refine dA_G (fun _ => ?_)
    refine dA_L (fun v9 e_3 => ?_)
    refine dA_if (fun _ => ?_) (fun _ => ?_)
    · exact lo_zX3_isCloser_s32_49 f g q3 hq3
    · refine dA_B (lo_zX3_caseOf_s32 f g q3 p1 p2 hq3) (fun r10 q12 hq12 => ?_)
      refine dA_G (fun _ => ?_)
      refine dA_L (fun v14 e_4 => ?_)
      refine dA_if (fun _ => ?_) (fun _ => ?_)
      · exact lo_zX3_isCloser_s32_50 f g q12 1 hq12
      · exact lo_zX3_isCloser_s32_49 f g q12 hq12
  · exact lo_zX3_isCloser_s32_49 f g q3 hq3

theorem lo_zX3_firstCloser_s32_2b (f g : Nat → Int64) (k2 : dK → Int32 → Int32 → Option (Int32 × dK)) (hk2 : ∀ (y0 : dK) (y1 : Int32) (y2 : Int32), Lo f g y0 → dAll (k2 y0 y1 y2) (fun o => Lo f g o.2)) (q : dK) (x1 : Int32) (x2 : Int32) (h : Lo f g q) : dAll (zX3_firstCloser_s32_2b k2 q x1 x2) (fun o => Lo f g o.2) := by
  unfold zX3_firstCloser_s32_2b
  refine dA_if (fun _ => ?_) (fun _ => ?_)
  · exact dA_some h
  · refine dA_B (lo_zX3_isCloser_s32 f g q x1 x2 h) (fun r1 q3 hq3 => ?_)
    refine dA_if (fun _ => ?_) (fun _ => ?_)
    · exact hk2 q3 x1 (x2 + 1) hq3
    · exact dA_some hq3

theorem lo_zX3_firstCloser_s32_2 (f g : Nat → Int64) (n : Nat) (q : dK) (x1 : Int32) (x2 : Int32) (h : Lo f g q) : dAll (zX3_firstCloser_s32_2 n q x1 x2) (fun o => Lo f g o.2) := by
  unfold zX3_firstCloser_s32_2
  exact dA_fix (fun (a : dK × Int32 × Int32) => Lo f g a.1) (fun k hk a ha => lo_zX3_firstCloser_s32_2b f g  _ (fun q x1 x2 hq => hk (q, x1, x2) hq) a.1 a.2.1 a.2.2 ha) n _ h

theorem lo_zX3_firstCloser_s32 (f g : Nat → Int64) (q : dK) (p1 : Int32) (h : Lo f g q) : dAll (zX3_firstCloser_s32 q p1) (fun o => Lo f g o.2) := by
  unfold zX3_firstCloser_s32
  exact lo_zX3_firstCloser_s32_2 f g dF q p1 1 h

theorem lo_zX3_turnOfFirstRow_s32_30b (f g : Nat → Int64) (k30 : dK → Int32 → Int32 → Int32 → Option (Int32 × dK)) (hk30 : ∀ (y0 : dK) (y1 : Int32) (y2 : Int32) (y3 : Int32), Lo f g y0 → dAll (k30 y0 y1 y2 y3) (fun o => Lo f g o.2)) (q : dK) (x1 : Int32) (x2 : Int32) (x3 : Int32) (h : Lo f g q) : dAll (zX3_turnOfFirstRow_s32_30b k30 q x1 x2 x3) (fun o => Lo f g o.2) := by
  unfold zX3_turnOfFirstRow_s32_30b
  refine dA_if (fun _ => ?_) (fun _ => ?_)
  · refine dA_B (lo_zX3_firstCloser_s32 f g q x2 h) (fun r1 q3 hq3 => ?_)
    exact dA_some hq3
  · refine dA_B (lo_zX3_firstCloser_s32 f g q x2 h) (fun r4 q6 hq6 => ?_)
    refine dA_B (lo_zX3_turned_s32 f g q6 x2 r4 hq6) (fun r7 q9 hq9 => ?_)
    exact hk30 q9 x1 r7 (x3 + 1) hq9

theorem lo_zX3_turnOfFirstRow_s32_30 (f g : Nat → Int64) (n : Nat) (q : dK) (x1 : Int32) (x2 : Int32) (x3 : Int32) (h : Lo f g q) : dAll (zX3_turnOfFirstRow_s32_30 n q x1 x2 x3) (fun o => Lo f g o.2) := by
  unfold zX3_turnOfFirstRow_s32_30
  exact dA_fix (fun (a : dK × Int32 × Int32 × Int32) => Lo f g a.1) (fun k hk a ha => lo_zX3_turnOfFirstRow_s32_30b f g  _ (fun q x1 x2 x3 hq => hk (q, x1, x2, x3) hq) a.1 a.2.1 a.2.2.1 a.2.2.2 ha) n _ h

theorem lo_zX3_turnOfFirstRow_s32_21 (f g : Nat → Int64) (q : dK) (h : Lo f g q) : dAll (zX3_turnOfFirstRow_s32_21 q) (fun o => Lo f g o.2) := by
  unfold zX3_turnOfFirstRow_s32_21
  exact dA_some h

theorem lo_zX3_turnOfFirstRow_s32 (f g : Nat → Int64) (q : dK) (p1 : Int32) (h : Lo f g q) : dAll (zX3_turnOfFirstRow_s32 q p1) (fun o => Lo f g o.2) := by
  unfold zX3_turnOfFirstRow_s32
  refine dA_V (lo_zX3_measure_s32 f g q h) (fun q3 hq3 => ?_)
  refine dA_if (fun _ => ?_) (fun _ => ?_)
  · exact lo_zX3_turnOfFirstRow_s32_21 f g q3 hq3
  · refine dA_G (fun _ => ?_)
    refine dA_L (fun v5 e_1 => ?_)
    refine dA_if (fun _ => ?_) (fun _ => ?_)
    · exact lo_zX3_turnOfFirstRow_s32_30 f g dF q3 p1 (q3.1 32 15) 0 hq3
    · exact lo_zX3_turnOfFirstRow_s32_21 f g q3 hq3

theorem lo_zX3_turnsToOrder_s32 (f g : Nat → Int64) (q : dK) (h : Lo f g q) : dAll (zX3_turnsToOrder_s32 q) (fun o => Lo f g o.2) := by
  unfold zX3_turnsToOrder_s32
  refine dA_V (lo_zX3_measure_s32 f g q h) (fun q3 hq3 => ?_)
  refine dA_G (fun _ => ?_)
  refine dA_L (fun v5 e_1 => ?_)
  exact dA_some hq3

theorem lo_zX9_fewest_s0 (f g : Nat → Int64) (nc : Nat) (ns : Nat) (q : dK) (p1 : Int32) (h : Lo f g q) : dAll (zX9_fewest_s0 nc ns q p1) (fun o => Lo f g o.2) := by
  unfold zX9_fewest_s0
  refine dA_V (lo_zX9_seated_s0 f g q h) (fun q3 hq3 => ?_)
  refine dA_V (lo_zX9_spread_s0_s20 f g nc ns q3 hq3) (fun q6 hq6 => ?_)
  refine dA_if (fun _ => ?_) (fun _ => ?_)
  · refine dA_B (lo_zX3_turnsToOrder_s32 f g q6 hq6) (fun r10 q12 hq12 => ?_)
    exact dA_some hq12
  · refine dA_B (lo_zX3_turnOfFirstRow_s32 f g q6 p1 hq6) (fun r7 q9 hq9 => ?_)
    exact dA_some hq9

theorem lo_zX3_rowsToOrder_s32_200 (f g : Nat → Int64) (q : dK) (x2 : Int32) (h : Lo f g q) : dAll (zX3_rowsToOrder_s32_200 q x2) (fun o => Lo f g o.2) := by
  unfold zX3_rowsToOrder_s32_200
  exact dA_some h

theorem lo_zX3_rowsToOrder_s32_188 (f g : Nat → Int64) (k53 : dK → Int32 → Int32 → Int32 → Option (Int32 × dK)) (hk53 : ∀ (y0 : dK) (y1 : Int32) (y2 : Int32) (y3 : Int32), Lo f g y0 → dAll (k53 y0 y1 y2 y3) (fun o => Lo f g o.2)) (k102 : dK → Int32 → Int32 → Int32 → Int32 → Int32 → Option (Int32 × dK)) (hk102 : ∀ (y0 : dK) (y1 : Int32) (y2 : Int32) (y3 : Int32) (y4 : Int32) (y5 : Int32), Lo f g y0 → dAll (k102 y0 y1 y2 y3 y4 y5) (fun o => Lo f g o.2)) (q : dK) (x1 : Int32) (x2 : Int32) (x3 : Int32) (x4 : Int32) (x5 : Int32) (h : Lo f g q) : dAll (zX3_rowsToOrder_s32_188 k53 k102 q x1 x2 x3 x4 x5) (fun o => Lo f g o.2) := by
  unfold zX3_rowsToOrder_s32_188
  exact hk102 q x1 x2 x3 x4 (x5 + 1) h

theorem lo_zX3_rowsToOrder_s32_161 (f g : Nat → Int64) (k53 : dK → Int32 → Int32 → Int32 → Option (Int32 × dK)) (hk53 : ∀ (y0 : dK) (y1 : Int32) (y2 : Int32) (y3 : Int32), Lo f g y0 → dAll (k53 y0 y1 y2 y3) (fun o => Lo f g o.2)) (k102 : dK → Int32 → Int32 → Int32 → Int32 → Int32 → Option (Int32 × dK)) (hk102 : ∀ (y0 : dK) (y1 : Int32) (y2 : Int32) (y3 : Int32) (y4 : Int32) (y5 : Int32), Lo f g y0 → dAll (k102 y0 y1 y2 y3 y4 y5) (fun o => Lo f g o.2)) (q : dK) (x1 : Int32) (x2 : Int32) (x3 : Int32) (x4 : Int32) (x5 : Int32) (x6 : Int32) (h : Lo f g q) : dAll (zX3_rowsToOrder_s32_161 k53 k102 q x1 x2 x3 x4 x5 x6) (fun o => Lo f g o.2) := by
  unfold zX3_rowsToOrder_s32_161
  refine dA_G (fun _ => ?_)
  refine dA_L (fun v2 e_1 => ?_)
  refine dA_G (fun _ => ?_)
  refine dA_L (fun v4 e_2 => ?_)
  refine dA_G (fun _ => ?_)
  refine dA_L (fun q6 e_3 => ?_)
  have hq6 : Lo f g q6 := by rw [e_3]; exact h
  exact lo_zX3_rowsToOrder_s32_188 f g k53 hk53 k102 hk102 q6 x1 x2 x3 x4 x5 hq6

theorem lo_zX3_rowsToOrder_s32_102b (f g : Nat → Int64) (k53 : dK → Int32 → Int32 → Int32 → Option (Int32 × dK)) (hk53 : ∀ (y0 : dK) (y1 : Int32) (y2 : Int32) (y3 : Int32), Lo f g y0 → dAll (k53 y0 y1 y2 y3) (fun o => Lo f g o.2)) (k102 : dK → Int32 → Int32 → Int32 → Int32 → Int32 → Option (Int32 × dK)) (hk102 : ∀ (y0 : dK) (y1 : Int32) (y2 : Int32) (y3 : Int32) (y4 : Int32) (y5 : Int32), Lo f g y0 → dAll (k102 y0 y1 y2 y3 y4 y5) (fun o => Lo f g o.2)) (q : dK) (x1 : Int32) (x2 : Int32) (x3 : Int32) (x4 : Int32) (x5 : Int32) (h : Lo f g q) : dAll (zX3_rowsToOrder_s32_102b k53 k102 q x1 x2 x3 x4 x5) (fun o => Lo f g o.2) := by
  unfold zX3_rowsToOrder_s32_102b
  refine dA_if (fun _ => ?_) (fun _ => ?_)
  · exact hk53 q x1 x2 (x3 + 1) h
  · refine dA_B (lo_zX3_isCloser_s32 f g q x4 x5 h) (fun r1 q3 hq3 => ?_)
    refine dA_if (fun _ => ?_) (fun _ => ?_)
    · exact lo_zX3_rowsToOrder_s32_188 f g k53 hk53 k102 hk102 q3 x1 x2 x3 x4 x5 hq3
    · refine dA_B (lo_zX3_turned_s32 f g q3 x4 x5 hq3) (fun r4 q6 hq6 => ?_)
      refine dA_G (fun _ => ?_)
      refine dA_L (fun v8 e_1 => ?_)
      refine dA_if (fun _ => ?_) (fun _ => ?_)
      · refine dA_if (fun _ => ?_) (fun _ => ?_)
        · exact lo_zX3_rowsToOrder_s32_161 f g k53 hk53 k102 hk102 q6 x1 x2 x3 x4 x5 r4 hq6
        · refine dA_G (fun _ => ?_)
          refine dA_L (fun q10 e_2 => ?_)
          have hq10 : Lo f g q10 := by rw [e_2]; exact hq6
          exact lo_zX3_rowsToOrder_s32_161 f g k53 hk53 k102 hk102 q10 (x1 + 1) x2 x3 x4 x5 r4 hq10
      · exact lo_zX3_rowsToOrder_s32_161 f g k53 hk53 k102 hk102 q6 x1 x2 x3 x4 x5 r4 hq6

theorem lo_zX3_rowsToOrder_s32_102 (f g : Nat → Int64) (k53 : dK → Int32 → Int32 → Int32 → Option (Int32 × dK)) (hk53 : ∀ (y0 : dK) (y1 : Int32) (y2 : Int32) (y3 : Int32), Lo f g y0 → dAll (k53 y0 y1 y2 y3) (fun o => Lo f g o.2)) (n : Nat) (q : dK) (x1 : Int32) (x2 : Int32) (x3 : Int32) (x4 : Int32) (x5 : Int32) (h : Lo f g q) : dAll (zX3_rowsToOrder_s32_102 k53 n q x1 x2 x3 x4 x5) (fun o => Lo f g o.2) := by
  unfold zX3_rowsToOrder_s32_102
  exact dA_fix (fun (a : dK × Int32 × Int32 × Int32 × Int32 × Int32) => Lo f g a.1) (fun k hk a ha => lo_zX3_rowsToOrder_s32_102b f g k53 hk53 _ (fun q x1 x2 x3 x4 x5 hq => hk (q, x1, x2, x3, x4, x5) hq) a.1 a.2.1 a.2.2.1 a.2.2.2.1 a.2.2.2.2.1 a.2.2.2.2.2 ha) n _ h

theorem lo_zX3_rowsToOrder_s32_99 (f g : Nat → Int64) (k53 : dK → Int32 → Int32 → Int32 → Option (Int32 × dK)) (hk53 : ∀ (y0 : dK) (y1 : Int32) (y2 : Int32) (y3 : Int32), Lo f g y0 → dAll (k53 y0 y1 y2 y3) (fun o => Lo f g o.2)) (q : dK) (x1 : Int32) (x2 : Int32) (x3 : Int32) (x4 : Int32) (h : Lo f g q) : dAll (zX3_rowsToOrder_s32_99 k53 q x1 x2 x3 x4) (fun o => Lo f g o.2) := by
  unfold zX3_rowsToOrder_s32_99
  exact lo_zX3_rowsToOrder_s32_102 f g k53 hk53 dF q x1 x2 x3 x4 1 h

theorem lo_zX3_rowsToOrder_s32_53b (f g : Nat → Int64) (k53 : dK → Int32 → Int32 → Int32 → Option (Int32 × dK)) (hk53 : ∀ (y0 : dK) (y1 : Int32) (y2 : Int32) (y3 : Int32), Lo f g y0 → dAll (k53 y0 y1 y2 y3) (fun o => Lo f g o.2)) (q : dK) (x1 : Int32) (x2 : Int32) (x3 : Int32) (h : Lo f g q) : dAll (zX3_rowsToOrder_s32_53b k53 q x1 x2 x3) (fun o => Lo f g o.2) := by
  unfold zX3_rowsToOrder_s32_53b
  refine dA_if (fun _ => ?_) (fun _ => ?_)
  · exact lo_zX3_rowsToOrder_s32_200 f g q x2 h
  · refine dA_if (fun _ => ?_) (fun _ => ?_)
    · exact lo_zX3_rowsToOrder_s32_200 f g q x2 h
    · refine dA_G (fun _ => ?_)
      refine dA_L (fun v2 e_1 => ?_)
      refine dA_G (fun _ => ?_)
      refine dA_L (fun v4 e_2 => ?_)
      refine dA_if (fun _ => ?_) (fun _ => ?_)
      · refine dA_G (fun _ => ?_)
        refine dA_L (fun v6 e_3 => ?_)
        exact lo_zX3_rowsToOrder_s32_99 f g k53 hk53 q x1 (mnI 1000000000 (x2 + v6)) x3 v2 h
      · exact lo_zX3_rowsToOrder_s32_99 f g k53 hk53 q x1 x2 x3 v2 h

theorem lo_zX3_rowsToOrder_s32_53 (f g : Nat → Int64) (n : Nat) (q : dK) (x1 : Int32) (x2 : Int32) (x3 : Int32) (h : Lo f g q) : dAll (zX3_rowsToOrder_s32_53 n q x1 x2 x3) (fun o => Lo f g o.2) := by
  unfold zX3_rowsToOrder_s32_53
  exact dA_fix (fun (a : dK × Int32 × Int32 × Int32) => Lo f g a.1) (fun k hk a ha => lo_zX3_rowsToOrder_s32_53b f g  _ (fun q x1 x2 x3 hq => hk (q, x1, x2, x3) hq) a.1 a.2.1 a.2.2.1 a.2.2.2 ha) n _ h

theorem lo_zX3_rowsToOrder_s32 (f g : Nat → Int64) (q : dK) (h : Lo f g q) : dAll (zX3_rowsToOrder_s32 q) (fun o => Lo f g o.2) := by
  unfold zX3_rowsToOrder_s32
  refine dA_V (lo_zX3_measure_s32 f g q h) (fun q3 hq3 => ?_)
  refine dA_G (fun _ => ?_)
  refine dA_L (fun v5 e_1 => ?_)
  refine dA_if (fun _ => ?_) (fun _ => ?_)
  · exact dA_some hq3
  · refine dA_L (fun q6 e_2 => ?_)
    have hq6 : Lo f g q6 := by rw [e_2]; exact hq3
    refine dA_G (fun _ => ?_)
    refine dA_L (fun q8 e_3 => ?_)
    have hq8 : Lo f g q8 := by rw [e_3]; exact hq6
    refine dA_G (fun _ => ?_)
    refine dA_L (fun q10 e_4 => ?_)
    have hq10 : Lo f g q10 := by rw [e_4]; exact hq8
    exact lo_zX3_rowsToOrder_s32_53 f g dF q10 1 0 0 hq10

theorem lo_zX9_many_s0 (f g : Nat → Int64) (nc : Nat) (ns : Nat) (q : dK) (h : Lo f g q) : dAll (zX9_many_s0 nc ns q) (fun o => Lo f g o.2) := by
  unfold zX9_many_s0
  refine dA_V (lo_zX9_seated_s0 f g q h) (fun q3 hq3 => ?_)
  refine dA_V (lo_zX9_spread_s0_s20 f g nc ns q3 hq3) (fun q6 hq6 => ?_)
  refine dA_B (lo_zX3_rowsToOrder_s32 f g q6 hq6) (fun r7 q9 hq9 => ?_)
  exact dA_some hq9

theorem lo_zX3_askCases_s32_s20_c0_173 (f g : Nat → Int64) (k36 : dK → Int32 → Int32 → Option (dK)) (hk36 : ∀ (y0 : dK) (y1 : Int32) (y2 : Int32), Lo f g y0 → dAll (k36 y0 y1 y2) (fun o => Lo f g o)) (k48 : dK → Int32 → Int32 → Int32 → Option (dK)) (hk48 : ∀ (y0 : dK) (y1 : Int32) (y2 : Int32) (y3 : Int32), Lo f g y0 → dAll (k48 y0 y1 y2 y3) (fun o => Lo f g o)) (k100 : dK → Int32 → Int32 → Int32 → Int32 → Int32 → Option (dK)) (hk100 : ∀ (y0 : dK) (y1 : Int32) (y2 : Int32) (y3 : Int32) (y4 : Int32) (y5 : Int32), Lo f g y0 → dAll (k100 y0 y1 y2 y3 y4 y5) (fun o => Lo f g o)) (k130 : dK → Int32 → Int32 → Int32 → Int32 → Int32 → Int32 → Int32 → Option (dK)) (hk130 : ∀ (y0 : dK) (y1 : Int32) (y2 : Int32) (y3 : Int32) (y4 : Int32) (y5 : Int32) (y6 : Int32) (y7 : Int32), Lo f g y0 → dAll (k130 y0 y1 y2 y3 y4 y5 y6 y7) (fun o => Lo f g o)) (q : dK) (x3 : Int32) (x5 : Int32) (x6 : Int32) (x8 : Int32) (x9 : Int32) (x10 : Int32) (x11 : Int32) (y0 : Int32) (h : Lo f g q) : dAll (zX3_askCases_s32_s20_c0_173 k36 k48 k100 k130 q x3 x5 x6 x8 x9 x10 x11 y0) (fun o => Lo f g o) := by
  unfold zX3_askCases_s32_s20_c0_173
  refine dA_V dA_tr (fun r1 _ => ?_)
  refine dA_G (fun _ => ?_)
  refine dA_L (fun q4 e_1 => ?_)
  have hq4 : Lo f g q4 := by rw [e_1]; exact h
  exact hk130 q4 x3 x5 x6 x8 x9 x10 (x11 + 1) hq4

theorem lo_zX3_askCases_s32_s20_c0_130b (f g : Nat → Int64) (k36 : dK → Int32 → Int32 → Option (dK)) (hk36 : ∀ (y0 : dK) (y1 : Int32) (y2 : Int32), Lo f g y0 → dAll (k36 y0 y1 y2) (fun o => Lo f g o)) (k48 : dK → Int32 → Int32 → Int32 → Option (dK)) (hk48 : ∀ (y0 : dK) (y1 : Int32) (y2 : Int32) (y3 : Int32), Lo f g y0 → dAll (k48 y0 y1 y2 y3) (fun o => Lo f g o)) (k100 : dK → Int32 → Int32 → Int32 → Int32 → Int32 → Option (dK)) (hk100 : ∀ (y0 : dK) (y1 : Int32) (y2 : Int32) (y3 : Int32) (y4 : Int32) (y5 : Int32), Lo f g y0 → dAll (k100 y0 y1 y2 y3 y4 y5) (fun o => Lo f g o)) (k130 : dK → Int32 → Int32 → Int32 → Int32 → Int32 → Int32 → Int32 → Option (dK)) (hk130 : ∀ (y0 : dK) (y1 : Int32) (y2 : Int32) (y3 : Int32) (y4 : Int32) (y5 : Int32) (y6 : Int32) (y7 : Int32), Lo f g y0 → dAll (k130 y0 y1 y2 y3 y4 y5 y6 y7) (fun o => Lo f g o)) (q : dK) (x3 : Int32) (x5 : Int32) (x6 : Int32) (x8 : Int32) (x9 : Int32) (x10 : Int32) (x11 : Int32) (h : Lo f g q) : dAll (zX3_askCases_s32_s20_c0_130b k36 k48 k100 k130 q x3 x5 x6 x8 x9 x10 x11) (fun o => Lo f g o) := by
  unfold zX3_askCases_s32_s20_c0_130b
  refine dA_if (fun _ => ?_) (fun _ => ?_)
  · exact hk100 q x3 x5 x6 x8 (x9 + 1) h
  · refine dA_G (fun _ => ?_)
    refine dA_L (fun v2 e_1 => ?_)
    refine dA_V (lo_zX1_setGrip_s20 f g q x5 v2 x10 x11 h) (fun q5 hq5 => ?_)
    refine dA_if (fun _ => ?_) (fun _ => ?_)
    · refine dA_B (lo_zX1_anyHolds_s20 f g q5 1 hq5) (fun r9 q11 hq11 => ?_)
      refine dA_V dA_tr (fun r12 _ => ?_)
      exact lo_zX3_askCases_s32_s20_c0_173 f g k36 hk36 k48 hk48 k100 hk100 k130 hk130 q11 x3 x5 x6 x8 x9 x10 x11 r12 hq11
    · refine dA_B (lo_zX1_pay_s20 f g q5 hq5) (fun r6 q8 hq8 => ?_)
      exact lo_zX3_askCases_s32_s20_c0_173 f g k36 hk36 k48 hk48 k100 hk100 k130 hk130 q8 x3 x5 x6 x8 x9 x10 x11 r6 hq8

theorem lo_zX3_askCases_s32_s20_c0_130 (f g : Nat → Int64) (k36 : dK → Int32 → Int32 → Option (dK)) (hk36 : ∀ (y0 : dK) (y1 : Int32) (y2 : Int32), Lo f g y0 → dAll (k36 y0 y1 y2) (fun o => Lo f g o)) (k48 : dK → Int32 → Int32 → Int32 → Option (dK)) (hk48 : ∀ (y0 : dK) (y1 : Int32) (y2 : Int32) (y3 : Int32), Lo f g y0 → dAll (k48 y0 y1 y2 y3) (fun o => Lo f g o)) (k100 : dK → Int32 → Int32 → Int32 → Int32 → Int32 → Option (dK)) (hk100 : ∀ (y0 : dK) (y1 : Int32) (y2 : Int32) (y3 : Int32) (y4 : Int32) (y5 : Int32), Lo f g y0 → dAll (k100 y0 y1 y2 y3 y4 y5) (fun o => Lo f g o)) (n : Nat) (q : dK) (x3 : Int32) (x5 : Int32) (x6 : Int32) (x8 : Int32) (x9 : Int32) (x10 : Int32) (x11 : Int32) (h : Lo f g q) : dAll (zX3_askCases_s32_s20_c0_130 k36 k48 k100 n q x3 x5 x6 x8 x9 x10 x11) (fun o => Lo f g o) := by
  unfold zX3_askCases_s32_s20_c0_130
  exact dA_fix (fun (a : dK × Int32 × Int32 × Int32 × Int32 × Int32 × Int32 × Int32) => Lo f g a.1) (fun k hk a ha => lo_zX3_askCases_s32_s20_c0_130b f g k36 hk36 k48 hk48 k100 hk100 _ (fun q x3 x5 x6 x8 x9 x10 x11 hq => hk (q, x3, x5, x6, x8, x9, x10, x11) hq) a.1 a.2.1 a.2.2.1 a.2.2.2.1 a.2.2.2.2.1 a.2.2.2.2.2.1 a.2.2.2.2.2.2.1 a.2.2.2.2.2.2.2 ha) n _ h

theorem lo_zX3_askCases_s32_s20_c0_125 (f g : Nat → Int64) (k36 : dK → Int32 → Int32 → Option (dK)) (hk36 : ∀ (y0 : dK) (y1 : Int32) (y2 : Int32), Lo f g y0 → dAll (k36 y0 y1 y2) (fun o => Lo f g o)) (k48 : dK → Int32 → Int32 → Int32 → Option (dK)) (hk48 : ∀ (y0 : dK) (y1 : Int32) (y2 : Int32) (y3 : Int32), Lo f g y0 → dAll (k48 y0 y1 y2 y3) (fun o => Lo f g o)) (k100 : dK → Int32 → Int32 → Int32 → Int32 → Int32 → Option (dK)) (hk100 : ∀ (y0 : dK) (y1 : Int32) (y2 : Int32) (y3 : Int32) (y4 : Int32) (y5 : Int32), Lo f g y0 → dAll (k100 y0 y1 y2 y3 y4 y5) (fun o => Lo f g o)) (q : dK) (x3 : Int32) (x5 : Int32) (x6 : Int32) (x8 : Int32) (x9 : Int32) (y0 : Int32) (h : Lo f g q) : dAll (zX3_askCases_s32_s20_c0_125 k36 k48 k100 q x3 x5 x6 x8 x9 y0) (fun o => Lo f g o) := by
  unfold zX3_askCases_s32_s20_c0_125
  exact lo_zX3_askCases_s32_s20_c0_130 f g k36 hk36 k48 hk48 k100 hk100 dF q x3 x5 x6 x8 x9 y0 0 h

theorem lo_zX3_askCases_s32_s20_c0_100b (f g : Nat → Int64) (k36 : dK → Int32 → Int32 → Option (dK)) (hk36 : ∀ (y0 : dK) (y1 : Int32) (y2 : Int32), Lo f g y0 → dAll (k36 y0 y1 y2) (fun o => Lo f g o)) (k48 : dK → Int32 → Int32 → Int32 → Option (dK)) (hk48 : ∀ (y0 : dK) (y1 : Int32) (y2 : Int32) (y3 : Int32), Lo f g y0 → dAll (k48 y0 y1 y2 y3) (fun o => Lo f g o)) (k100 : dK → Int32 → Int32 → Int32 → Int32 → Int32 → Option (dK)) (hk100 : ∀ (y0 : dK) (y1 : Int32) (y2 : Int32) (y3 : Int32) (y4 : Int32) (y5 : Int32), Lo f g y0 → dAll (k100 y0 y1 y2 y3 y4 y5) (fun o => Lo f g o)) (q : dK) (x3 : Int32) (x5 : Int32) (x6 : Int32) (x8 : Int32) (x9 : Int32) (h : Lo f g q) : dAll (zX3_askCases_s32_s20_c0_100b k36 k48 k100 q x3 x5 x6 x8 x9) (fun o => Lo f g o) := by
  unfold zX3_askCases_s32_s20_c0_100b
  refine dA_if (fun _ => ?_) (fun _ => ?_)
  · exact hk48 q x3 x5 (x6 + 1) h
  · refine dA_if (fun _ => ?_) (fun _ => ?_)
    · exact lo_zX3_askCases_s32_s20_c0_125 f g k36 hk36 k48 hk48 k100 hk100 q x3 x5 x6 x8 x9 (-1) h
    · refine dA_G (fun _ => ?_)
      refine dA_L (fun v2 e_1 => ?_)
      exact lo_zX3_askCases_s32_s20_c0_125 f g k36 hk36 k48 hk48 k100 hk100 q x3 x5 x6 x8 x9 v2 h

theorem lo_zX3_askCases_s32_s20_c0_100 (f g : Nat → Int64) (k36 : dK → Int32 → Int32 → Option (dK)) (hk36 : ∀ (y0 : dK) (y1 : Int32) (y2 : Int32), Lo f g y0 → dAll (k36 y0 y1 y2) (fun o => Lo f g o)) (k48 : dK → Int32 → Int32 → Int32 → Option (dK)) (hk48 : ∀ (y0 : dK) (y1 : Int32) (y2 : Int32) (y3 : Int32), Lo f g y0 → dAll (k48 y0 y1 y2 y3) (fun o => Lo f g o)) (n : Nat) (q : dK) (x3 : Int32) (x5 : Int32) (x6 : Int32) (x8 : Int32) (x9 : Int32) (h : Lo f g q) : dAll (zX3_askCases_s32_s20_c0_100 k36 k48 n q x3 x5 x6 x8 x9) (fun o => Lo f g o) := by
  unfold zX3_askCases_s32_s20_c0_100
  exact dA_fix (fun (a : dK × Int32 × Int32 × Int32 × Int32 × Int32) => Lo f g a.1) (fun k hk a ha => lo_zX3_askCases_s32_s20_c0_100b f g k36 hk36 k48 hk48 _ (fun q x3 x5 x6 x8 x9 hq => hk (q, x3, x5, x6, x8, x9) hq) a.1 a.2.1 a.2.2.1 a.2.2.2.1 a.2.2.2.2.1 a.2.2.2.2.2 ha) n _ h

theorem lo_zX3_askCases_s32_s20_c0_94 (f g : Nat → Int64) (k36 : dK → Int32 → Int32 → Option (dK)) (hk36 : ∀ (y0 : dK) (y1 : Int32) (y2 : Int32), Lo f g y0 → dAll (k36 y0 y1 y2) (fun o => Lo f g o)) (k48 : dK → Int32 → Int32 → Int32 → Option (dK)) (hk48 : ∀ (y0 : dK) (y1 : Int32) (y2 : Int32) (y3 : Int32), Lo f g y0 → dAll (k48 y0 y1 y2 y3) (fun o => Lo f g o)) (q : dK) (x3 : Int32) (x5 : Int32) (x6 : Int32) (x7 : Int32) (y0 : Int32) (h : Lo f g q) : dAll (zX3_askCases_s32_s20_c0_94 k36 k48 q x3 x5 x6 x7 y0) (fun o => Lo f g o) := by
  unfold zX3_askCases_s32_s20_c0_94
  exact lo_zX3_askCases_s32_s20_c0_100 f g k36 hk36 k48 hk48 dF q x3 x5 x6 y0 x7 h

theorem lo_zX3_askCases_s32_s20_c0_72 (f g : Nat → Int64) (k36 : dK → Int32 → Int32 → Option (dK)) (hk36 : ∀ (y0 : dK) (y1 : Int32) (y2 : Int32), Lo f g y0 → dAll (k36 y0 y1 y2) (fun o => Lo f g o)) (k48 : dK → Int32 → Int32 → Int32 → Option (dK)) (hk48 : ∀ (y0 : dK) (y1 : Int32) (y2 : Int32) (y3 : Int32), Lo f g y0 → dAll (k48 y0 y1 y2 y3) (fun o => Lo f g o)) (q : dK) (x3 : Int32) (x5 : Int32) (x6 : Int32) (y0 : Int32) (h : Lo f g q) : dAll (zX3_askCases_s32_s20_c0_72 k36 k48 q x3 x5 x6 y0) (fun o => Lo f g o) := by
  unfold zX3_askCases_s32_s20_c0_72
  refine dA_if (fun _ => ?_) (fun _ => ?_)
  · exact lo_zX3_askCases_s32_s20_c0_94 f g k36 hk36 k48 hk48 q x3 x5 x6 y0 6 h
  · exact lo_zX3_askCases_s32_s20_c0_94 f g k36 hk36 k48 hk48 q x3 x5 x6 y0 ((q.1 32 13) - 1 : Int32) h

theorem lo_zX3_askCases_s32_s20_c0_48b (f g : Nat → Int64) (k36 : dK → Int32 → Int32 → Option (dK)) (hk36 : ∀ (y0 : dK) (y1 : Int32) (y2 : Int32), Lo f g y0 → dAll (k36 y0 y1 y2) (fun o => Lo f g o)) (k48 : dK → Int32 → Int32 → Int32 → Option (dK)) (hk48 : ∀ (y0 : dK) (y1 : Int32) (y2 : Int32) (y3 : Int32), Lo f g y0 → dAll (k48 y0 y1 y2 y3) (fun o => Lo f g o)) (q : dK) (x3 : Int32) (x5 : Int32) (x6 : Int32) (h : Lo f g q) : dAll (zX3_askCases_s32_s20_c0_48b k36 k48 q x3 x5 x6) (fun o => Lo f g o) := by
  unfold zX3_askCases_s32_s20_c0_48b
  refine dA_if (fun _ => ?_) (fun _ => ?_)
  · exact hk36 q x3 (x5 + 1) h
  · refine dA_if (fun _ => ?_) (fun _ => ?_)
    · exact lo_zX3_askCases_s32_s20_c0_72 f g k36 hk36 k48 hk48 q x3 x5 x6 6 h
    · exact lo_zX3_askCases_s32_s20_c0_72 f g k36 hk36 k48 hk48 q x3 x5 x6 0 h

theorem lo_zX3_askCases_s32_s20_c0_48 (f g : Nat → Int64) (k36 : dK → Int32 → Int32 → Option (dK)) (hk36 : ∀ (y0 : dK) (y1 : Int32) (y2 : Int32), Lo f g y0 → dAll (k36 y0 y1 y2) (fun o => Lo f g o)) (n : Nat) (q : dK) (x3 : Int32) (x5 : Int32) (x6 : Int32) (h : Lo f g q) : dAll (zX3_askCases_s32_s20_c0_48 k36 n q x3 x5 x6) (fun o => Lo f g o) := by
  unfold zX3_askCases_s32_s20_c0_48
  exact dA_fix (fun (a : dK × Int32 × Int32 × Int32) => Lo f g a.1) (fun k hk a ha => lo_zX3_askCases_s32_s20_c0_48b f g k36 hk36 _ (fun q x3 x5 x6 hq => hk (q, x3, x5, x6) hq) a.1 a.2.1 a.2.2.1 a.2.2.2 ha) n _ h

theorem lo_zX3_askCases_s32_s20_c0_36b (f g : Nat → Int64) (k36 : dK → Int32 → Int32 → Option (dK)) (hk36 : ∀ (y0 : dK) (y1 : Int32) (y2 : Int32), Lo f g y0 → dAll (k36 y0 y1 y2) (fun o => Lo f g o)) (q : dK) (x3 : Int32) (x5 : Int32) (h : Lo f g q) : dAll (zX3_askCases_s32_s20_c0_36b k36 q x3 x5) (fun o => Lo f g o) := by
  unfold zX3_askCases_s32_s20_c0_36b
  refine dA_if (fun _ => ?_) (fun _ => ?_)
  · exact dA_some h
  · exact lo_zX3_askCases_s32_s20_c0_48 f g k36 hk36 dF q x3 x5 0 h

theorem lo_zX3_askCases_s32_s20_c0_36 (f g : Nat → Int64) (n : Nat) (q : dK) (x3 : Int32) (x5 : Int32) (h : Lo f g q) : dAll (zX3_askCases_s32_s20_c0_36 n q x3 x5) (fun o => Lo f g o) := by
  unfold zX3_askCases_s32_s20_c0_36
  exact dA_fix (fun (a : dK × Int32 × Int32) => Lo f g a.1) (fun k hk a ha => lo_zX3_askCases_s32_s20_c0_36b f g  _ (fun q x3 x5 hq => hk (q, x3, x5) hq) a.1 a.2.1 a.2.2 ha) n _ h

theorem lo_zX3_askCases_s32_s20_c0_16 (f g : Nat → Int64) (q : dK) (x2 : Int32) (x3 : Int32) (h : Lo f g q) : dAll (zX3_askCases_s32_s20_c0_16 q x2 x3) (fun o => Lo f g o) := by
  unfold zX3_askCases_s32_s20_c0_16
  refine dA_L (fun q1 e_1 => ?_)
  have hq1 : Lo f g q1 := by rw [e_1]; exact h
  refine dA_V (lo_zX1_setCommon_s20 f g q1 (q1.1 32 13) x2 hq1) (fun q4 hq4 => ?_)
  exact lo_zX3_askCases_s32_s20_c0_36 f g dF q4 x3 1 hq4

theorem lo_zX3_askCases_s32_s20_c0 (f g : Nat → Int64) (q : dK) (p2 : Int32) (h : Lo f g q) : dAll (zX3_askCases_s32_s20_c0 q p2) (fun o => Lo f g o) := by
  unfold zX3_askCases_s32_s20_c0
  exact lo_zX3_askCases_s32_s20_c0_16 f g q p2 0 h

theorem lo_zX3_putInBucket_s32_51 (f g : Nat → Int64) (q : dK) (x1 : Int32) (x2 : Int32) (h : Lo f g q) : dAll (zX3_putInBucket_s32_51 q x1 x2) (fun o => Lo f g o) := by
  unfold zX3_putInBucket_s32_51
  refine dA_G (fun _ => ?_)
  refine dA_L (fun q2 e_1 => ?_)
  have hq2 : Lo f g q2 := by rw [e_1]; exact h
  exact dA_some hq2

theorem lo_zX3_putInBucket_s32 (f g : Nat → Int64) (q : dK) (p1 : Int32) (h : Lo f g q) : dAll (zX3_putInBucket_s32 q p1) (fun o => Lo f g o) := by
  unfold zX3_putInBucket_s32
  refine dA_G (fun _ => ?_)
  refine dA_L (fun v2 e_1 => ?_)
  refine dA_G (fun _ => ?_)
  refine dA_L (fun v4 e_2 => ?_)
  refine dA_G (fun _ => ?_)
  refine dA_L (fun q6 e_3 => ?_)
  have hq6 : Lo f g q6 := by rw [e_3]; exact h
  refine dA_G (fun _ => ?_)
  refine dA_L (fun q8 e_4 => ?_)
  have hq8 : Lo f g q8 := by rw [e_4]; exact hq6
  refine dA_G (fun _ => ?_)
  refine dA_L (fun v10 e_5 => ?_)
  refine dA_if (fun _ => ?_) (fun _ => ?_)
  · exact lo_zX3_putInBucket_s32_51 f g q8 p1 (v2 - v2 / 100 * 100 : Int32) hq8
  · refine dA_G (fun _ => ?_)
    refine dA_L (fun v12 e_6 => ?_)
    refine dA_G (fun _ => ?_)
    refine dA_L (fun q14 e_7 => ?_)
    have hq14 : Lo f g q14 := by rw [e_7]; exact hq8
    exact lo_zX3_putInBucket_s32_51 f g q14 p1 (v2 - v2 / 100 * 100 : Int32) hq14

theorem lo_zX3_takeFromBucket_s32_77 (f g : Nat → Int64) (q : dK) (h : Lo f g q) : dAll (zX3_takeFromBucket_s32_77 q) (fun o => Lo f g o) := by
  unfold zX3_takeFromBucket_s32_77
  exact dA_some h

theorem lo_zX3_takeFromBucket_s32_50 (f g : Nat → Int64) (q : dK) (x1 : Int32) (h : Lo f g q) : dAll (zX3_takeFromBucket_s32_50 q x1) (fun o => Lo f g o) := by
  unfold zX3_takeFromBucket_s32_50
  refine dA_G (fun _ => ?_)
  refine dA_L (fun v2 e_1 => ?_)
  refine dA_if (fun _ => ?_) (fun _ => ?_)
  · exact lo_zX3_takeFromBucket_s32_77 f g q h
  · refine dA_G (fun _ => ?_)
    refine dA_L (fun v4 e_2 => ?_)
    refine dA_G (fun _ => ?_)
    refine dA_L (fun v6 e_3 => ?_)
    refine dA_G (fun _ => ?_)
    refine dA_L (fun q8 e_4 => ?_)
    have hq8 : Lo f g q8 := by rw [e_4]; exact h
    exact lo_zX3_takeFromBucket_s32_77 f g q8 hq8

theorem lo_zX3_takeFromBucket_s32 (f g : Nat → Int64) (q : dK) (p1 : Int32) (h : Lo f g q) : dAll (zX3_takeFromBucket_s32 q p1) (fun o => Lo f g o) := by
  unfold zX3_takeFromBucket_s32
  refine dA_G (fun _ => ?_)
  refine dA_L (fun v2 e_1 => ?_)
  refine dA_if (fun _ => ?_) (fun _ => ?_)
  · refine dA_G (fun _ => ?_)
    refine dA_L (fun v10 e_2 => ?_)
    refine dA_G (fun _ => ?_)
    refine dA_L (fun v12 e_3 => ?_)
    refine dA_G (fun _ => ?_)
    refine dA_L (fun q14 e_4 => ?_)
    have hq14 : Lo f g q14 := by rw [e_4]; exact h
    exact lo_zX3_takeFromBucket_s32_50 f g q14 p1 hq14
  · refine dA_G (fun _ => ?_)
    refine dA_L (fun v4 e_5 => ?_)
    refine dA_G (fun _ => ?_)
    refine dA_L (fun v6 e_6 => ?_)
    refine dA_G (fun _ => ?_)
    refine dA_L (fun q8 e_7 => ?_)
    have hq8 : Lo f g q8 := by rw [e_7]; exact h
    exact lo_zX3_takeFromBucket_s32_50 f g q8 p1 hq8

theorem lo_zX3_offerTurns_s32_105 (f g : Nat → Int64) (k4 : dK → Int32 → Int32 → Int32 → Option (Int32 × dK)) (hk4 : ∀ (y0 : dK) (y1 : Int32) (y2 : Int32) (y3 : Int32), Lo f g y0 → dAll (k4 y0 y1 y2 y3) (fun o => Lo f g o.2)) (q : dK) (x1 : Int32) (x2 : Int32) (x3 : Int32) (h : Lo f g q) : dAll (zX3_offerTurns_s32_105 k4 q x1 x2 x3) (fun o => Lo f g o.2) := by
  unfold zX3_offerTurns_s32_105
  exact hk4 q x1 x2 (x3 + 1) h

theorem lo_zX3_offerTurns_s32_90 (f g : Nat → Int64) (k4 : dK → Int32 → Int32 → Int32 → Option (Int32 × dK)) (hk4 : ∀ (y0 : dK) (y1 : Int32) (y2 : Int32) (y3 : Int32), Lo f g y0 → dAll (k4 y0 y1 y2 y3) (fun o => Lo f g o.2)) (q : dK) (x1 : Int32) (x2 : Int32) (x3 : Int32) (x4 : Int32) (x6 : Int32) (h : Lo f g q) : dAll (zX3_offerTurns_s32_90 k4 q x1 x2 x3 x4 x6) (fun o => Lo f g o.2) := by
  unfold zX3_offerTurns_s32_90
  refine dA_G (fun _ => ?_)
  refine dA_L (fun q2 e_1 => ?_)
  have hq2 : Lo f g q2 := by rw [e_1]; exact h
  refine dA_V (lo_zX3_putInBucket_s32 f g q2 x4 hq2) (fun q5 hq5 => ?_)
  exact lo_zX3_offerTurns_s32_105 f g k4 hk4 q5 x1 x2 x3 hq5

theorem lo_zX3_offerTurns_s32_4b (f g : Nat → Int64) (k4 : dK → Int32 → Int32 → Int32 → Option (Int32 × dK)) (hk4 : ∀ (y0 : dK) (y1 : Int32) (y2 : Int32) (y3 : Int32), Lo f g y0 → dAll (k4 y0 y1 y2 y3) (fun o => Lo f g o.2)) (q : dK) (x1 : Int32) (x2 : Int32) (x3 : Int32) (h : Lo f g q) : dAll (zX3_offerTurns_s32_4b k4 q x1 x2 x3) (fun o => Lo f g o.2) := by
  unfold zX3_offerTurns_s32_4b
  refine dA_if (fun _ => ?_) (fun _ => ?_)
  · exact dA_some h
  · refine dA_B (lo_zX3_turned_s32 f g q x1 x3 h) (fun r1 q3 hq3 => ?_)
    refine dA_B (lo_zX3_caseOf_s32 f g q3 x1 x3 hq3) (fun r4 q6 hq6 => ?_)
    refine dA_G (fun _ => ?_)
    refine dA_L (fun v8 e_1 => ?_)
    refine dA_G (fun _ => ?_)
    refine dA_L (fun v10 e_2 => ?_)
    refine dA_G (fun _ => ?_)
    refine dA_L (fun v12 e_3 => ?_)
    refine dA_if (fun _ => ?_) (fun _ => ?_)
    · refine dA_G (fun _ => ?_)
      refine dA_L (fun v14 e_4 => ?_)
      refine dA_if (fun _ => ?_) (fun _ => ?_)
      · exact lo_zX3_offerTurns_s32_105 f g k4 hk4 q6 x1 x2 x3 hq6
      · refine dA_G (fun _ => ?_)
        refine dA_L (fun v16 e_5 => ?_)
        refine dA_if (fun _ => ?_) (fun _ => ?_)
        · exact lo_zX3_offerTurns_s32_90 f g k4 hk4 q6 x1 (x2 + 1) x3 r1 (v8 + v10) hq6
        · refine dA_V (lo_zX3_takeFromBucket_s32 f g q6 r1 hq6) (fun q19 hq19 => ?_)
          exact lo_zX3_offerTurns_s32_90 f g k4 hk4 q19 x1 x2 x3 r1 (v8 + v10) hq19
    · exact lo_zX3_offerTurns_s32_105 f g k4 hk4 q6 x1 x2 x3 hq6

theorem lo_zX3_offerTurns_s32_4 (f g : Nat → Int64) (n : Nat) (q : dK) (x1 : Int32) (x2 : Int32) (x3 : Int32) (h : Lo f g q) : dAll (zX3_offerTurns_s32_4 n q x1 x2 x3) (fun o => Lo f g o.2) := by
  unfold zX3_offerTurns_s32_4
  exact dA_fix (fun (a : dK × Int32 × Int32 × Int32) => Lo f g a.1) (fun k hk a ha => lo_zX3_offerTurns_s32_4b f g  _ (fun q x1 x2 x3 hq => hk (q, x1, x2, x3) hq) a.1 a.2.1 a.2.2.1 a.2.2.2 ha) n _ h

theorem lo_zX3_offerTurns_s32 (f g : Nat → Int64) (q : dK) (p1 : Int32) (h : Lo f g q) : dAll (zX3_offerTurns_s32 q p1) (fun o => Lo f g o.2) := by
  unfold zX3_offerTurns_s32
  exact lo_zX3_offerTurns_s32_4 f g dF q p1 0 1 h

theorem lo_zX3_leastPaid_s32_s20_143 (f g : Nat → Int64) (q : dK) (h : Lo f g q) : dAll (zX3_leastPaid_s32_s20_143 q) (fun o => Lo f g o.2) := by
  unfold zX3_leastPaid_s32_s20_143
  exact dA_some h

theorem lo_zX3_leastPaid_s32_s20_137 (f g : Nat → Int64) (k47 : dK → Int32 → Int32 → Option (Int32 × dK)) (hk47 : ∀ (y0 : dK) (y1 : Int32) (y2 : Int32), Lo f g y0 → dAll (k47 y0 y1 y2) (fun o => Lo f g o.2)) (q : dK) (x3 : Int32) (x4 : Int32) (h : Lo f g q) : dAll (zX3_leastPaid_s32_s20_137 k47 q x3 x4) (fun o => Lo f g o.2) := by
  unfold zX3_leastPaid_s32_s20_137
  exact hk47 q x3 (x4 + 1) h

theorem lo_zX3_leastPaid_s32_s20_73b (f g : Nat → Int64) (k47 : dK → Int32 → Int32 → Option (Int32 × dK)) (hk47 : ∀ (y0 : dK) (y1 : Int32) (y2 : Int32), Lo f g y0 → dAll (k47 y0 y1 y2) (fun o => Lo f g o.2)) (k73 : dK → Int32 → Int32 → Int32 → Int32 → Option (Int32 × dK)) (hk73 : ∀ (y0 : dK) (y1 : Int32) (y2 : Int32) (y3 : Int32) (y4 : Int32), Lo f g y0 → dAll (k73 y0 y1 y2 y3 y4) (fun o => Lo f g o.2)) (q : dK) (x3 : Int32) (x4 : Int32) (x5 : Int32) (x6 : Int32) (h : Lo f g q) : dAll (zX3_leastPaid_s32_s20_73b k47 k73 q x3 x4 x5 x6) (fun o => Lo f g o.2) := by
  unfold zX3_leastPaid_s32_s20_73b
  refine dA_if (fun _ => ?_) (fun _ => ?_)
  · exact lo_zX3_leastPaid_s32_s20_137 f g k47 hk47 q x3 x4 h
  · refine dA_G (fun _ => ?_)
    refine dA_L (fun v2 e_1 => ?_)
    refine dA_if (fun _ => ?_) (fun _ => ?_)
    · exact lo_zX3_leastPaid_s32_s20_137 f g k47 hk47 q x3 x4 h
    · refine dA_G (fun _ => ?_)
      refine dA_L (fun v4 e_2 => ?_)
      refine dA_V (lo_zX3_takeFromBucket_s32 f g q v4 h) (fun q7 hq7 => ?_)
      refine dA_B (lo_zX3_isOrdered_s32 f g q7 v4 hq7) (fun r8 q10 hq10 => ?_)
      refine dA_if (fun _ => ?_) (fun _ => ?_)
      · refine dA_B (lo_zX3_offerTurns_s32 f g q10 v4 hq10) (fun r11 q13 hq13 => ?_)
        exact hk73 q13 (x3 + (r11 - 1 : Int32)) x4 x5 (x6 + 1) hq13
      · exact dA_some hq10

theorem lo_zX3_leastPaid_s32_s20_73 (f g : Nat → Int64) (k47 : dK → Int32 → Int32 → Option (Int32 × dK)) (hk47 : ∀ (y0 : dK) (y1 : Int32) (y2 : Int32), Lo f g y0 → dAll (k47 y0 y1 y2) (fun o => Lo f g o.2)) (n : Nat) (q : dK) (x3 : Int32) (x4 : Int32) (x5 : Int32) (x6 : Int32) (h : Lo f g q) : dAll (zX3_leastPaid_s32_s20_73 k47 n q x3 x4 x5 x6) (fun o => Lo f g o.2) := by
  unfold zX3_leastPaid_s32_s20_73
  exact dA_fix (fun (a : dK × Int32 × Int32 × Int32 × Int32) => Lo f g a.1) (fun k hk a ha => lo_zX3_leastPaid_s32_s20_73b f g k47 hk47 _ (fun q x3 x4 x5 x6 hq => hk (q, x3, x4, x5, x6) hq) a.1 a.2.1 a.2.2.1 a.2.2.2.1 a.2.2.2.2 ha) n _ h

theorem lo_zX3_leastPaid_s32_s20_47b (f g : Nat → Int64) (k47 : dK → Int32 → Int32 → Option (Int32 × dK)) (hk47 : ∀ (y0 : dK) (y1 : Int32) (y2 : Int32), Lo f g y0 → dAll (k47 y0 y1 y2) (fun o => Lo f g o.2)) (q : dK) (x3 : Int32) (x4 : Int32) (h : Lo f g q) : dAll (zX3_leastPaid_s32_s20_47b k47 q x3 x4) (fun o => Lo f g o.2) := by
  unfold zX3_leastPaid_s32_s20_47b
  refine dA_if (fun _ => ?_) (fun _ => ?_)
  · exact lo_zX3_leastPaid_s32_s20_143 f g q h
  · refine dA_if (fun _ => ?_) (fun _ => ?_)
    · exact lo_zX3_leastPaid_s32_s20_143 f g q h
    · exact lo_zX3_leastPaid_s32_s20_73 f g k47 hk47 dF q x3 x4 (x4 - x4 / 100 * 100 : Int32) 0 h

theorem lo_zX3_leastPaid_s32_s20_47 (f g : Nat → Int64) (n : Nat) (q : dK) (x3 : Int32) (x4 : Int32) (h : Lo f g q) : dAll (zX3_leastPaid_s32_s20_47 n q x3 x4) (fun o => Lo f g o.2) := by
  unfold zX3_leastPaid_s32_s20_47
  exact dA_fix (fun (a : dK × Int32 × Int32) => Lo f g a.1) (fun k hk a ha => lo_zX3_leastPaid_s32_s20_47b f g  _ (fun q x3 x4 hq => hk (q, x3, x4) hq) a.1 a.2.1 a.2.2 ha) n _ h

theorem lo_zX3_leastPaid_s32_s20 (f g : Nat → Int64) (q : dK) (p2 : Int32) (h : Lo f g q) : dAll (zX3_leastPaid_s32_s20 q p2) (fun o => Lo f g o.2) := by
  unfold zX3_leastPaid_s32_s20
  refine dA_V (lo_zX3_askCases_s32_s20_c0 f g q p2 h) (fun q3 hq3 => ?_)
  refine dA_L (fun q4 e_1 => ?_)
  have hq4 : Lo f g q4 := by rw [e_1]; exact hq3
  refine dA_L (fun q5 e_2 => ?_)
  have hq5 : Lo f g q5 := by rw [e_2]; exact hq4
  refine dA_G (fun _ => ?_)
  refine dA_L (fun q7 e_3 => ?_)
  have hq7 : Lo f g q7 := by rw [e_3]; exact hq5
  refine dA_V (lo_zX3_putInBucket_s32 f g q7 (q7.1 32 15) hq7) (fun q10 hq10 => ?_)
  exact lo_zX3_leastPaid_s32_s20_47 f g dF q10 1 0 hq10

theorem lo_zX9_cheapest_s0 (f g : Nat → Int64) (nc : Nat) (ns : Nat) (q : dK) (h : Lo f g q) : dAll (zX9_cheapest_s0 nc ns q) (fun o => Lo f g o.2) := by
  unfold zX9_cheapest_s0
  refine dA_V (lo_zX9_seated_s0 f g q h) (fun q3 hq3 => ?_)
  refine dA_V (lo_zX9_spread_s0_s20 f g nc ns q3 hq3) (fun q6 hq6 => ?_)
  refine dA_B (lo_zX3_leastPaid_s32_s20 f g q6 (q6.1 2 4) hq6) (fun r7 q9 hq9 => ?_)
  exact dA_some hq9

theorem lo_zX3_worstTowers_s32_102 (f g : Nat → Int64) (q : dK) (y0 : Int32) (h : Lo f g q) : dAll (zX3_worstTowers_s32_102 q y0) (fun o => Lo f g o.2) := by
  unfold zX3_worstTowers_s32_102
  exact dA_some h

theorem lo_zX3_worstTowers_s32_73 (f g : Nat → Int64) (k14 : dK → Int32 → Int32 → Int32 → Int32 → Int32 → Option (Int32 × dK)) (hk14 : ∀ (y0 : dK) (y1 : Int32) (y2 : Int32) (y3 : Int32) (y4 : Int32) (y5 : Int32), Lo f g y0 → dAll (k14 y0 y1 y2 y3 y4 y5) (fun o => Lo f g o.2)) (q : dK) (x1 : Int32) (x2 : Int32) (x3 : Int32) (x5 : Int32) (y0 : Int32) (y1 : Int32) (h : Lo f g q) : dAll (zX3_worstTowers_s32_73 k14 q x1 x2 x3 x5 y0 y1) (fun o => Lo f g o.2) := by
  unfold zX3_worstTowers_s32_73
  refine dA_V dA_tr (fun r1 _ => ?_)
  exact hk14 q x1 x2 x3 (y1 + r1) (x5 + 1) h

theorem lo_zX3_worstTowers_s32_55 (f g : Nat → Int64) (k14 : dK → Int32 → Int32 → Int32 → Int32 → Int32 → Option (Int32 × dK)) (hk14 : ∀ (y0 : dK) (y1 : Int32) (y2 : Int32) (y3 : Int32) (y4 : Int32) (y5 : Int32), Lo f g y0 → dAll (k14 y0 y1 y2 y3 y4 y5) (fun o => Lo f g o.2)) (q : dK) (x1 : Int32) (x2 : Int32) (x4 : Int32) (x5 : Int32) (x6 : Int32) (y0 : Int32) (y1 : Int32) (h : Lo f g q) : dAll (zX3_worstTowers_s32_55 k14 q x1 x2 x4 x5 x6 y0 y1) (fun o => Lo f g o.2) := by
  unfold zX3_worstTowers_s32_55
  refine dA_V dA_tr (fun r1 _ => ?_)
  refine dA_if (fun _ => ?_) (fun _ => ?_)
  · exact lo_zX3_worstTowers_s32_73 f g k14 hk14 q x1 x2 (y1 + r1) x5 0 x4 h
  · exact lo_zX3_worstTowers_s32_73 f g k14 hk14 q x1 x2 (y1 + r1) x5 1 x4 h

theorem lo_zX3_worstTowers_s32_43 (f g : Nat → Int64) (k14 : dK → Int32 → Int32 → Int32 → Int32 → Int32 → Option (Int32 × dK)) (hk14 : ∀ (y0 : dK) (y1 : Int32) (y2 : Int32) (y3 : Int32) (y4 : Int32) (y5 : Int32), Lo f g y0 → dAll (k14 y0 y1 y2 y3 y4 y5) (fun o => Lo f g o.2)) (q : dK) (x1 : Int32) (x2 : Int32) (x3 : Int32) (x4 : Int32) (x5 : Int32) (x6 : Int32) (h : Lo f g q) : dAll (zX3_worstTowers_s32_43 k14 q x1 x2 x3 x4 x5 x6) (fun o => Lo f g o.2) := by
  unfold zX3_worstTowers_s32_43
  refine dA_if (fun _ => ?_) (fun _ => ?_)
  · exact lo_zX3_worstTowers_s32_55 f g k14 hk14 q x1 x2 x4 x5 x6 1 x3 h
  · exact lo_zX3_worstTowers_s32_55 f g k14 hk14 q x1 x2 x4 x5 x6 0 x3 h

theorem lo_zX3_worstTowers_s32_14b (f g : Nat → Int64) (k14 : dK → Int32 → Int32 → Int32 → Int32 → Int32 → Option (Int32 × dK)) (hk14 : ∀ (y0 : dK) (y1 : Int32) (y2 : Int32) (y3 : Int32) (y4 : Int32) (y5 : Int32), Lo f g y0 → dAll (k14 y0 y1 y2 y3 y4 y5) (fun o => Lo f g o.2)) (q : dK) (x1 : Int32) (x2 : Int32) (x3 : Int32) (x4 : Int32) (x5 : Int32) (h : Lo f g q) : dAll (zX3_worstTowers_s32_14b k14 q x1 x2 x3 x4 x5) (fun o => Lo f g o.2) := by
  unfold zX3_worstTowers_s32_14b
  refine dA_if (fun _ => ?_) (fun _ => ?_)
  · refine dA_if (fun _ => ?_) (fun _ => ?_)
    · exact dA_some h
    · refine dA_if (fun _ => ?_) (fun _ => ?_)
      · exact lo_zX3_worstTowers_s32_102 f g q x3 h
      · exact lo_zX3_worstTowers_s32_102 f g q x4 h
  · refine dA_G (fun _ => ?_)
    refine dA_L (fun v2 e_1 => ?_)
    refine dA_if (fun _ => ?_) (fun _ => ?_)
    · exact lo_zX3_worstTowers_s32_43 f g k14 hk14 q x1 x2 x3 x4 x5 v2 h
    · exact lo_zX3_worstTowers_s32_43 f g k14 hk14 q x1 v2 0 x4 x5 v2 h

theorem lo_zX3_worstTowers_s32_14 (f g : Nat → Int64) (n : Nat) (q : dK) (x1 : Int32) (x2 : Int32) (x3 : Int32) (x4 : Int32) (x5 : Int32) (h : Lo f g q) : dAll (zX3_worstTowers_s32_14 n q x1 x2 x3 x4 x5) (fun o => Lo f g o.2) := by
  unfold zX3_worstTowers_s32_14
  exact dA_fix (fun (a : dK × Int32 × Int32 × Int32 × Int32 × Int32) => Lo f g a.1) (fun k hk a ha => lo_zX3_worstTowers_s32_14b f g  _ (fun q x1 x2 x3 x4 x5 hq => hk (q, x1, x2, x3, x4, x5) hq) a.1 a.2.1 a.2.2.1 a.2.2.2.1 a.2.2.2.2.1 a.2.2.2.2.2 ha) n _ h

theorem lo_zX3_worstTowers_s32 (f g : Nat → Int64) (q : dK) (p1 : Int32) (h : Lo f g q) : dAll (zX3_worstTowers_s32 q p1) (fun o => Lo f g o.2) := by
  unfold zX3_worstTowers_s32
  refine dA_V (lo_zX3_measure_s32 f g q h) (fun q3 hq3 => ?_)
  exact lo_zX3_worstTowers_s32_14 f g dF q3 p1 0 0 0 0 hq3

theorem lo_zX9_worst_s0_9 (f g : Nat → Int64) (nc : Nat) (ns : Nat) (q : dK) (h : Lo f g q) : dAll (zX9_worst_s0_9 nc ns q) (fun o => Lo f g o.2) := by
  unfold zX9_worst_s0_9
  exact dA_some h

theorem lo_zX9_worst_s0 (f g : Nat → Int64) (nc : Nat) (ns : Nat) (q : dK) (p1 : Int32) (h : Lo f g q) : dAll (zX9_worst_s0 nc ns q p1) (fun o => Lo f g o.2) := by
  unfold zX9_worst_s0
  refine dA_if (fun _ => ?_) (fun _ => ?_)
  · exact lo_zX9_worst_s0_9 f g nc ns q h
  · refine dA_if (fun _ => ?_) (fun _ => ?_)
    · refine dA_V (lo_zX9_seated_s0 f g q h) (fun q3 hq3 => ?_)
      refine dA_V (lo_zX9_spread_s0_s20 f g nc ns q3 hq3) (fun q6 hq6 => ?_)
      refine dA_B (lo_zX3_worstTowers_s32 f g q6 p1 hq6) (fun r7 q9 hq9 => ?_)
      exact dA_some hq9
    · exact lo_zX9_worst_s0_9 f g nc ns q h

theorem lo_zX3_fits_s32_49 (f g : Nat → Int64) (q : dK) (y0 : Int32) (h : Lo f g q) : dAll (zX3_fits_s32_49 q y0) (fun o => Lo f g o.2) := by
  unfold zX3_fits_s32_49
  refine dA_G (fun _ => ?_)
  exact dA_some h

theorem lo_zX3_fits_s32_48 (f g : Nat → Int64) (q : dK) (h : Lo f g q) : dAll (zX3_fits_s32_48 q) (fun o => Lo f g o.2) := by
  unfold zX3_fits_s32_48
  exact lo_zX3_fits_s32_49 f g q 0 h

theorem lo_zX3_fits_s32_24 (f g : Nat → Int64) (q : dK) (y0 : Int32) (h : Lo f g q) : dAll (zX3_fits_s32_24 q y0) (fun o => Lo f g o.2) := by
  unfold zX3_fits_s32_24
  refine dA_G (fun _ => ?_)
  exact dA_some h

theorem lo_zX3_fits_s32 (f g : Nat → Int64) (q : dK) (p1 : Int32) (p2 : Int32) (p3 : Int32) (h : Lo f g q) : dAll (zX3_fits_s32 q p1 p2 p3) (fun o => Lo f g o.2) := by
  unfold zX3_fits_s32
  refine dA_if (fun _ => ?_) (fun _ => ?_)
  · refine dA_if (fun _ => ?_) (fun _ => ?_)
    · exact lo_zX3_fits_s32_24 f g q 1 h
    · exact lo_zX3_fits_s32_24 f g q 0 h
  · refine dA_if (fun _ => ?_) (fun _ => ?_)
    · refine dA_G (fun _ => ?_)
      refine dA_L (fun v2 e_1 => ?_)
      refine dA_if (fun _ => ?_) (fun _ => ?_)
      · exact lo_zX3_fits_s32_49 f g q 1 h
      · exact lo_zX3_fits_s32_48 f g q h
    · exact lo_zX3_fits_s32_48 f g q h

theorem lo_zX3_nearest_s32_187 (f g : Nat → Int64) (q : dK) (h : Lo f g q) : dAll (zX3_nearest_s32_187 q) (fun o => Lo f g o.2) := by
  unfold zX3_nearest_s32_187
  exact dA_some h

theorem lo_zX3_nearest_s32_175 (f g : Nat → Int64) (k35 : dK → Int32 → Int32 → Int32 → Option (Int32 × dK)) (hk35 : ∀ (y0 : dK) (y1 : Int32) (y2 : Int32) (y3 : Int32), Lo f g y0 → dAll (k35 y0 y1 y2 y3) (fun o => Lo f g o.2)) (k81 : dK → Int32 → Int32 → Int32 → Int32 → Int32 → Option (Int32 × dK)) (hk81 : ∀ (y0 : dK) (y1 : Int32) (y2 : Int32) (y3 : Int32) (y4 : Int32) (y5 : Int32), Lo f g y0 → dAll (k81 y0 y1 y2 y3 y4 y5) (fun o => Lo f g o.2)) (q : dK) (x1 : Int32) (x2 : Int32) (x3 : Int32) (x4 : Int32) (x5 : Int32) (h : Lo f g q) : dAll (zX3_nearest_s32_175 k35 k81 q x1 x2 x3 x4 x5) (fun o => Lo f g o.2) := by
  unfold zX3_nearest_s32_175
  exact hk81 q x1 x2 x3 x4 (x5 + 1) h

theorem lo_zX3_nearest_s32_81b (f g : Nat → Int64) (k35 : dK → Int32 → Int32 → Int32 → Option (Int32 × dK)) (hk35 : ∀ (y0 : dK) (y1 : Int32) (y2 : Int32) (y3 : Int32), Lo f g y0 → dAll (k35 y0 y1 y2 y3) (fun o => Lo f g o.2)) (k81 : dK → Int32 → Int32 → Int32 → Int32 → Int32 → Option (Int32 × dK)) (hk81 : ∀ (y0 : dK) (y1 : Int32) (y2 : Int32) (y3 : Int32) (y4 : Int32) (y5 : Int32), Lo f g y0 → dAll (k81 y0 y1 y2 y3 y4 y5) (fun o => Lo f g o.2)) (q : dK) (x1 : Int32) (x2 : Int32) (x3 : Int32) (x4 : Int32) (x5 : Int32) (h : Lo f g q) : dAll (zX3_nearest_s32_81b k35 k81 q x1 x2 x3 x4 x5) (fun o => Lo f g o.2) := by
  unfold zX3_nearest_s32_81b
  refine dA_if (fun _ => ?_) (fun _ => ?_)
  · exact hk35 q x1 x2 (x3 + 1) h
  · refine dA_B (lo_zX3_turned_s32 f g q x4 x5 h) (fun r1 q3 hq3 => ?_)
    refine dA_G (fun _ => ?_)
    refine dA_L (fun v5 e_1 => ?_)
    refine dA_if (fun _ => ?_) (fun _ => ?_)
    · refine dA_B (lo_zX3_caseOf_s32 f g q3 x4 x5 hq3) (fun r6 q8 hq8 => ?_)
      refine dA_G (fun _ => ?_)
      refine dA_L (fun v10 e_2 => ?_)
      refine dA_if (fun _ => ?_) (fun _ => ?_)
      · refine dA_if (fun _ => ?_) (fun _ => ?_)
        · exact lo_zX3_nearest_s32_175 f g k35 hk35 k81 hk81 q8 x1 x2 x3 x4 x5 hq8
        · refine dA_G (fun _ => ?_)
          refine dA_L (fun v12 e_3 => ?_)
          refine dA_G (fun _ => ?_)
          refine dA_L (fun q14 e_4 => ?_)
          have hq14 : Lo f g q14 := by rw [e_4]; exact hq8
          refine dA_G (fun _ => ?_)
          refine dA_L (fun q16 e_5 => ?_)
          have hq16 : Lo f g q16 := by rw [e_5]; exact hq14
          refine dA_L (fun q17 e_6 => ?_)
          have hq17 : Lo f g q17 := by rw [e_6]; exact hq16
          exact lo_zX3_nearest_s32_175 f g k35 hk35 k81 hk81 q17 x1 x2 x3 x4 x5 hq17
      · exact lo_zX3_nearest_s32_175 f g k35 hk35 k81 hk81 q8 x1 x2 x3 x4 x5 hq8
    · exact lo_zX3_nearest_s32_175 f g k35 hk35 k81 hk81 q3 x1 x2 x3 x4 x5 hq3

theorem lo_zX3_nearest_s32_81 (f g : Nat → Int64) (k35 : dK → Int32 → Int32 → Int32 → Option (Int32 × dK)) (hk35 : ∀ (y0 : dK) (y1 : Int32) (y2 : Int32) (y3 : Int32), Lo f g y0 → dAll (k35 y0 y1 y2 y3) (fun o => Lo f g o.2)) (n : Nat) (q : dK) (x1 : Int32) (x2 : Int32) (x3 : Int32) (x4 : Int32) (x5 : Int32) (h : Lo f g q) : dAll (zX3_nearest_s32_81 k35 n q x1 x2 x3 x4 x5) (fun o => Lo f g o.2) := by
  unfold zX3_nearest_s32_81
  exact dA_fix (fun (a : dK × Int32 × Int32 × Int32 × Int32 × Int32) => Lo f g a.1) (fun k hk a ha => lo_zX3_nearest_s32_81b f g k35 hk35 _ (fun q x1 x2 x3 x4 x5 hq => hk (q, x1, x2, x3, x4, x5) hq) a.1 a.2.1 a.2.2.1 a.2.2.2.1 a.2.2.2.2.1 a.2.2.2.2.2 ha) n _ h

theorem lo_zX3_nearest_s32_35b (f g : Nat → Int64) (k35 : dK → Int32 → Int32 → Int32 → Option (Int32 × dK)) (hk35 : ∀ (y0 : dK) (y1 : Int32) (y2 : Int32) (y3 : Int32), Lo f g y0 → dAll (k35 y0 y1 y2 y3) (fun o => Lo f g o.2)) (q : dK) (x1 : Int32) (x2 : Int32) (x3 : Int32) (h : Lo f g q) : dAll (zX3_nearest_s32_35b k35 q x1 x2 x3) (fun o => Lo f g o.2) := by
  unfold zX3_nearest_s32_35b
  refine dA_if (fun _ => ?_) (fun _ => ?_)
  · exact lo_zX3_nearest_s32_187 f g q h
  · refine dA_if (fun _ => ?_) (fun _ => ?_)
    · exact lo_zX3_nearest_s32_187 f g q h
    · refine dA_G (fun _ => ?_)
      refine dA_L (fun v2 e_1 => ?_)
      refine dA_B (lo_zX3_fits_s32 f g q v2 x1 x2 h) (fun r3 q5 hq5 => ?_)
      refine dA_if (fun _ => ?_) (fun _ => ?_)
      · exact lo_zX3_nearest_s32_81 f g k35 hk35 dF q5 x1 x2 x3 v2 1 hq5
      · refine dA_G (fun _ => ?_)
        refine dA_L (fun v7 e_2 => ?_)
        exact dA_some hq5

theorem lo_zX3_nearest_s32_35 (f g : Nat → Int64) (n : Nat) (q : dK) (x1 : Int32) (x2 : Int32) (x3 : Int32) (h : Lo f g q) : dAll (zX3_nearest_s32_35 n q x1 x2 x3) (fun o => Lo f g o.2) := by
  unfold zX3_nearest_s32_35
  exact dA_fix (fun (a : dK × Int32 × Int32 × Int32) => Lo f g a.1) (fun k hk a ha => lo_zX3_nearest_s32_35b f g  _ (fun q x1 x2 x3 hq => hk (q, x1, x2, x3) hq) a.1 a.2.1 a.2.2.1 a.2.2.2 ha) n _ h

theorem lo_zX3_nearest_s32 (f g : Nat → Int64) (q : dK) (p1 : Int32) (p2 : Int32) (h : Lo f g q) : dAll (zX3_nearest_s32 q p1 p2) (fun o => Lo f g o.2) := by
  unfold zX3_nearest_s32
  refine dA_L (fun q1 e_1 => ?_)
  have hq1 : Lo f g q1 := by rw [e_1]; exact h
  refine dA_G (fun _ => ?_)
  refine dA_L (fun q3 e_2 => ?_)
  have hq3 : Lo f g q3 := by rw [e_2]; exact hq1
  refine dA_G (fun _ => ?_)
  refine dA_L (fun q5 e_3 => ?_)
  have hq5 : Lo f g q5 := by rw [e_3]; exact hq3
  refine dA_L (fun q6 e_4 => ?_)
  have hq6 : Lo f g q6 := by rw [e_4]; exact hq5
  exact lo_zX3_nearest_s32_35 f g dF q6 p1 p2 0 hq6

theorem lo_zX3_towersReached_s32 (f g : Nat → Int64) (q : dK) (h : Lo f g q) : dAll (zX3_towersReached_s32 q) (fun o => Lo f g o.2) := by
  unfold zX3_towersReached_s32
  refine dA_B (lo_zX3_nearest_s32 f g q 0 0 h) (fun r1 q3 hq3 => ?_)
  exact dA_some hq3

theorem lo_zX9_reach_s0 (f g : Nat → Int64) (nc : Nat) (ns : Nat) (q : dK) (h : Lo f g q) : dAll (zX9_reach_s0 nc ns q) (fun o => Lo f g o.2) := by
  unfold zX9_reach_s0
  refine dA_V (lo_zX9_seated_s0 f g q h) (fun q3 hq3 => ?_)
  refine dA_V (lo_zX9_spread_s0_s20 f g nc ns q3 hq3) (fun q6 hq6 => ?_)
  refine dA_B (lo_zX3_towersReached_s32 f g q6 hq6) (fun r7 q9 hq9 => ?_)
  exact dA_some hq9

theorem lo_zX9_gaps_s0 (f g : Nat → Int64) (q : dK) (h : Lo f g q) : dAll (zX9_gaps_s0 q) (fun o => Lo f g o.2) := by
  unfold zX9_gaps_s0
  refine dA_B (lo_zX8_gapCount_s2 f g q h) (fun r1 q3 hq3 => ?_)
  exact dA_some hq3

theorem lo_zX3_turnsToNumber_s32_105 (f g : Nat → Int64) (q : dK) (h : Lo f g q) : dAll (zX3_turnsToNumber_s32_105 q) (fun o => Lo f g o.2) := by
  unfold zX3_turnsToNumber_s32_105
  exact dA_some h

theorem lo_zX3_turnsToNumber_s32_83 (f g : Nat → Int64) (k13 : dK → Int32 → Int32 → Int32 → Option (Int32 × dK)) (hk13 : ∀ (y0 : dK) (y1 : Int32) (y2 : Int32) (y3 : Int32), Lo f g y0 → dAll (k13 y0 y1 y2 y3) (fun o => Lo f g o.2)) (q : dK) (x2 : Int32) (x3 : Int32) (x4 : Int32) (h : Lo f g q) : dAll (zX3_turnsToNumber_s32_83 k13 q x2 x3 x4) (fun o => Lo f g o.2) := by
  unfold zX3_turnsToNumber_s32_83
  exact hk13 q x2 x3 (x4 + (-1)) h

theorem lo_zX3_turnsToNumber_s32_81 (f g : Nat → Int64) (k13 : dK → Int32 → Int32 → Int32 → Option (Int32 × dK)) (hk13 : ∀ (y0 : dK) (y1 : Int32) (y2 : Int32) (y3 : Int32), Lo f g y0 → dAll (k13 y0 y1 y2 y3) (fun o => Lo f g o.2)) (q : dK) (x2 : Int32) (x4 : Int32) (y0 : Int32) (y1 : Int32) (h : Lo f g q) : dAll (zX3_turnsToNumber_s32_81 k13 q x2 x4 y0 y1) (fun o => Lo f g o.2) := by
  unfold zX3_turnsToNumber_s32_81
  exact lo_zX3_turnsToNumber_s32_83 f g k13 hk13 q x2 (y1 ||| y0) x4 h

theorem lo_zX3_turnsToNumber_s32_13b (f g : Nat → Int64) (k13 : dK → Int32 → Int32 → Int32 → Option (Int32 × dK)) (hk13 : ∀ (y0 : dK) (y1 : Int32) (y2 : Int32) (y3 : Int32), Lo f g y0 → dAll (k13 y0 y1 y2 y3) (fun o => Lo f g o.2)) (q : dK) (x2 : Int32) (x3 : Int32) (x4 : Int32) (h : Lo f g q) : dAll (zX3_turnsToNumber_s32_13b k13 q x2 x3 x4) (fun o => Lo f g o.2) := by
  unfold zX3_turnsToNumber_s32_13b
  refine dA_if (fun _ => ?_) (fun _ => ?_)
  · refine dA_if (fun _ => ?_) (fun _ => ?_)
    · refine dA_if (fun _ => ?_) (fun _ => ?_)
      · refine dA_B (lo_zX3_numberOfOrder_s32 f g q h) (fun r1 q3 hq3 => ?_)
        refine dA_B (lo_zX3_nearest_s32 f g q3 1 r1 hq3) (fun r4 q6 hq6 => ?_)
        exact dA_some hq6
      · exact lo_zX3_turnsToNumber_s32_105 f g q h
    · exact lo_zX3_turnsToNumber_s32_105 f g q h
  · refine dA_G (fun _ => ?_)
    refine dA_L (fun q8 e_1 => ?_)
    have hq8 : Lo f g q8 := by rw [e_1]; exact h
    refine dA_if (fun _ => ?_) (fun _ => ?_)
    · exact lo_zX3_turnsToNumber_s32_83 f g k13 hk13 q8 x2 x3 x4 hq8
    · refine dA_B (lo_zX3_indexOfRank_s32 f g q8 (x2 - x2 / 10 * 10 : Int32) hq8) (fun r9 q11 hq11 => ?_)
      refine dA_G (fun _ => ?_)
      refine dA_L (fun q13 e_2 => ?_)
      have hq13 : Lo f g q13 := by rw [e_2]; exact hq11
      refine dA_G (fun _ => ?_)
      refine dA_L (fun v15 e_3 => ?_)
      refine dA_if (fun _ => ?_) (fun _ => ?_)
      · exact lo_zX3_turnsToNumber_s32_81 f g k13 hk13 q13 (x2 / 10 : Int32) x4 0 x3 hq13
      · refine dA_G (fun _ => ?_)
        refine dA_L (fun v17 e_4 => ?_)
        exact lo_zX3_turnsToNumber_s32_81 f g k13 hk13 q13 (x2 / 10 : Int32) x4 (1 <<< ((v17 : Int32) &&& 31) : Int32) x3 hq13

theorem lo_zX3_turnsToNumber_s32_13 (f g : Nat → Int64) (n : Nat) (q : dK) (x2 : Int32) (x3 : Int32) (x4 : Int32) (h : Lo f g q) : dAll (zX3_turnsToNumber_s32_13 n q x2 x3 x4) (fun o => Lo f g o.2) := by
  unfold zX3_turnsToNumber_s32_13
  exact dA_fix (fun (a : dK × Int32 × Int32 × Int32) => Lo f g a.1) (fun k hk a ha => lo_zX3_turnsToNumber_s32_13b f g  _ (fun q x2 x3 x4 hq => hk (q, x2, x3, x4) hq) a.1 a.2.1 a.2.2.1 a.2.2.2 ha) n _ h

theorem lo_zX3_turnsToNumber_s32 (f g : Nat → Int64) (q : dK) (p1 : Int32) (h : Lo f g q) : dAll (zX3_turnsToNumber_s32 q p1) (fun o => Lo f g o.2) := by
  unfold zX3_turnsToNumber_s32
  refine dA_if (fun _ => ?_) (fun _ => ?_)
  · exact lo_zX3_turnsToNumber_s32_13 f g dF q p1 0 5 h
  · exact dA_some h

theorem lo_zX9_comes_s0 (f g : Nat → Int64) (nc : Nat) (ns : Nat) (q : dK) (p1 : Int32) (h : Lo f g q) : dAll (zX9_comes_s0 nc ns q p1) (fun o => Lo f g o.2) := by
  unfold zX9_comes_s0
  refine dA_V (lo_zX9_seated_s0 f g q h) (fun q3 hq3 => ?_)
  refine dA_V (lo_zX9_spread_s0_s20 f g nc ns q3 hq3) (fun q6 hq6 => ?_)
  refine dA_B (lo_zX3_turnsToNumber_s32 f g q6 p1 hq6) (fun r7 q9 hq9 => ?_)
  exact dA_some hq9

theorem lo_zX3_turnsToTop_s32 (f g : Nat → Int64) (q : dK) (p1 : Int32) (h : Lo f g q) : dAll (zX3_turnsToTop_s32 q p1) (fun o => Lo f g o.2) := by
  unfold zX3_turnsToTop_s32
  refine dA_B (lo_zX3_indexOfRank_s32 f g q p1 h) (fun r1 q3 hq3 => ?_)
  refine dA_B (lo_zX3_nearest_s32 f g q3 2 r1 hq3) (fun r4 q6 hq6 => ?_)
  exact dA_some hq6

theorem lo_zX9_view_s0 (f g : Nat → Int64) (nc : Nat) (ns : Nat) (q : dK) (p1 : Int32) (h : Lo f g q) : dAll (zX9_view_s0 nc ns q p1) (fun o => Lo f g o.2) := by
  unfold zX9_view_s0
  refine dA_B (lo_zX8_has_s2 f g q p1 h) (fun r1 q3 hq3 => ?_)
  refine dA_if (fun _ => ?_) (fun _ => ?_)
  · exact dA_some hq3
  · refine dA_V (lo_zX9_seated_s0 f g q3 hq3) (fun q6 hq6 => ?_)
    refine dA_V (lo_zX9_spread_s0_s20 f g nc ns q6 hq6) (fun q9 hq9 => ?_)
    refine dA_B (lo_zX3_turnsToTop_s32 f g q9 p1 hq9) (fun r10 q12 hq12 => ?_)
    exact dA_some hq12

theorem lo_zX8_rises_s2_61 (f g : Nat → Int64) (k5 : dK → Int32 → Int32 → Int32 → Int32 → Option (Int32 × dK)) (hk5 : ∀ (y0 : dK) (y1 : Int32) (y2 : Int32) (y3 : Int32) (y4 : Int32), Lo f g y0 → dAll (k5 y0 y1 y2 y3 y4) (fun o => Lo f g o.2)) (q : dK) (x1 : Int32) (x2 : Int32) (x3 : Int32) (x4 : Int32) (h : Lo f g q) : dAll (zX8_rises_s2_61 k5 q x1 x2 x3 x4) (fun o => Lo f g o.2) := by
  unfold zX8_rises_s2_61
  exact hk5 q x1 x2 x3 (x4 + 1) h

theorem lo_zX8_rises_s2_53 (f g : Nat → Int64) (k5 : dK → Int32 → Int32 → Int32 → Int32 → Option (Int32 × dK)) (hk5 : ∀ (y0 : dK) (y1 : Int32) (y2 : Int32) (y3 : Int32) (y4 : Int32), Lo f g y0 → dAll (k5 y0 y1 y2 y3 y4) (fun o => Lo f g o.2)) (q : dK) (x1 : Int32) (x2 : Int32) (x4 : Int32) (h : Lo f g q) : dAll (zX8_rises_s2_53 k5 q x1 x2 x4) (fun o => Lo f g o.2) := by
  unfold zX8_rises_s2_53
  refine dA_G (fun _ => ?_)
  refine dA_L (fun v2 e_1 => ?_)
  exact lo_zX8_rises_s2_61 f g k5 hk5 q x1 x2 v2 x4 h

theorem lo_zX8_rises_s2_51 (f g : Nat → Int64) (q : dK) (h : Lo f g q) : dAll (zX8_rises_s2_51 q) (fun o => Lo f g o.2) := by
  unfold zX8_rises_s2_51
  exact dA_some h

theorem lo_zX8_rises_s2_5b (f g : Nat → Int64) (k5 : dK → Int32 → Int32 → Int32 → Int32 → Option (Int32 × dK)) (hk5 : ∀ (y0 : dK) (y1 : Int32) (y2 : Int32) (y3 : Int32) (y4 : Int32), Lo f g y0 → dAll (k5 y0 y1 y2 y3 y4) (fun o => Lo f g o.2)) (q : dK) (x1 : Int32) (x2 : Int32) (x3 : Int32) (x4 : Int32) (h : Lo f g q) : dAll (zX8_rises_s2_5b k5 q x1 x2 x3 x4) (fun o => Lo f g o.2) := by
  unfold zX8_rises_s2_5b
  refine dA_if (fun _ => ?_) (fun _ => ?_)
  · exact dA_some h
  · refine dA_if (fun _ => ?_) (fun _ => ?_)
    · refine dA_G (fun _ => ?_)
      refine dA_L (fun v2 e_1 => ?_)
      refine dA_if (fun _ => ?_) (fun _ => ?_)
      · exact lo_zX8_rises_s2_51 f g q h
      · refine dA_if (fun _ => ?_) (fun _ => ?_)
        · refine dA_G (fun _ => ?_)
          refine dA_L (fun v4 e_2 => ?_)
          refine dA_if (fun _ => ?_) (fun _ => ?_)
          · exact lo_zX8_rises_s2_51 f g q h
          · exact lo_zX8_rises_s2_53 f g k5 hk5 q x1 x2 x4 h
        · exact lo_zX8_rises_s2_53 f g k5 hk5 q x1 x2 x4 h
    · exact lo_zX8_rises_s2_61 f g k5 hk5 q x1 x2 x3 x4 h

theorem lo_zX8_rises_s2_5 (f g : Nat → Int64) (n : Nat) (q : dK) (x1 : Int32) (x2 : Int32) (x3 : Int32) (x4 : Int32) (h : Lo f g q) : dAll (zX8_rises_s2_5 n q x1 x2 x3 x4) (fun o => Lo f g o.2) := by
  unfold zX8_rises_s2_5
  exact dA_fix (fun (a : dK × Int32 × Int32 × Int32 × Int32) => Lo f g a.1) (fun k hk a ha => lo_zX8_rises_s2_5b f g  _ (fun q x1 x2 x3 x4 hq => hk (q, x1, x2, x3, x4) hq) a.1 a.2.1 a.2.2.1 a.2.2.2.1 a.2.2.2.2 ha) n _ h

theorem lo_zX8_rises_s2 (f g : Nat → Int64) (q : dK) (p1 : Int32) (p2 : Int32) (h : Lo f g q) : dAll (zX8_rises_s2 q p1 p2) (fun o => Lo f g o.2) := by
  unfold zX8_rises_s2
  exact lo_zX8_rises_s2_5 f g dF q p1 p2 (-1) 0 h

theorem lo_zX9_stays_s0_81 (f g : Nat → Int64) (q : dK) (y0 : Int32) (h : Lo f g q) : dAll (zX9_stays_s0_81 q y0) (fun o => Lo f g o.2) := by
  unfold zX9_stays_s0_81
  exact dA_some h

theorem lo_zX9_stays_s0_63 (f g : Nat → Int64) (k13 : dK → Int32 → Int32 → Int32 → Option (Int32 × dK)) (hk13 : ∀ (y0 : dK) (y1 : Int32) (y2 : Int32) (y3 : Int32), Lo f g y0 → dAll (k13 y0 y1 y2 y3) (fun o => Lo f g o.2)) (q : dK) (x1 : Int32) (x2 : Int32) (x3 : Int32) (h : Lo f g q) : dAll (zX9_stays_s0_63 k13 q x1 x2 x3) (fun o => Lo f g o.2) := by
  unfold zX9_stays_s0_63
  exact hk13 q x1 x2 (x3 + 1) h

theorem lo_zX9_stays_s0_13b (f g : Nat → Int64) (k13 : dK → Int32 → Int32 → Int32 → Option (Int32 × dK)) (hk13 : ∀ (y0 : dK) (y1 : Int32) (y2 : Int32) (y3 : Int32), Lo f g y0 → dAll (k13 y0 y1 y2 y3) (fun o => Lo f g o.2)) (q : dK) (x1 : Int32) (x2 : Int32) (x3 : Int32) (h : Lo f g q) : dAll (zX9_stays_s0_13b k13 q x1 x2 x3) (fun o => Lo f g o.2) := by
  unfold zX9_stays_s0_13b
  refine dA_if (fun _ => ?_) (fun _ => ?_)
  · refine dA_if (fun _ => ?_) (fun _ => ?_)
    · refine dA_V dA_tr (fun r1 _ => ?_)
      exact lo_zX9_stays_s0_81 f g q r1 h
    · exact lo_zX9_stays_s0_81 f g q x2 h
  · refine dA_V dA_tr (fun r3 _ => ?_)
    refine dA_V dA_tr (fun r5 _ => ?_)
    refine dA_if (fun _ => ?_) (fun _ => ?_)
    · exact lo_zX9_stays_s0_63 f g k13 hk13 q x1 x2 x3 h
    · refine dA_B (lo_zX8_rises_s2 f g q x3 (q.1 1 3) h) (fun r7 q9 hq9 => ?_)
      refine dA_if (fun _ => ?_) (fun _ => ?_)
      · exact lo_zX9_stays_s0_63 f g k13 hk13 q9 x1 x2 x3 hq9
      · exact lo_zX9_stays_s0_63 f g k13 hk13 q9 x1 x3 x3 hq9

theorem lo_zX9_stays_s0_13 (f g : Nat → Int64) (n : Nat) (q : dK) (x1 : Int32) (x2 : Int32) (x3 : Int32) (h : Lo f g q) : dAll (zX9_stays_s0_13 n q x1 x2 x3) (fun o => Lo f g o.2) := by
  unfold zX9_stays_s0_13
  exact dA_fix (fun (a : dK × Int32 × Int32 × Int32) => Lo f g a.1) (fun k hk a ha => lo_zX9_stays_s0_13b f g  _ (fun q x1 x2 x3 hq => hk (q, x1, x2, x3) hq) a.1 a.2.1 a.2.2.1 a.2.2.2 ha) n _ h

theorem lo_zX9_stays_s0 (f g : Nat → Int64) (q : dK) (p1 : Int32) (h : Lo f g q) : dAll (zX9_stays_s0 q p1) (fun o => Lo f g o.2) := by
  unfold zX9_stays_s0
  refine dA_V dA_tr (fun r1 _ => ?_)
  refine dA_if (fun _ => ?_) (fun _ => ?_)
  · exact dA_some h
  · exact lo_zX9_stays_s0_13 f g dF q p1 0 1 h

theorem lo_zX9_seen_s0_17 (f g : Nat → Int64) (q : dK) (h : Lo f g q) : dAll (zX9_seen_s0_17 q) (fun o => Lo f g o.2) := by
  unfold zX9_seen_s0_17
  refine dA_B (lo_zX9_refuse_s0 f g q (-1) h) (fun r1 q3 hq3 => ?_)
  exact dA_some hq3

theorem lo_zX9_seen_s0 (f g : Nat → Int64) (q : dK) (p1 : Int32) (p2 : Int32) (h : Lo f g q) : dAll (zX9_seen_s0 q p1 p2) (fun o => Lo f g o.2) := by
  unfold zX9_seen_s0
  refine dA_if (fun _ => ?_) (fun _ => ?_)
  · exact lo_zX9_seen_s0_17 f g q h
  · refine dA_if (fun _ => ?_) (fun _ => ?_)
    · exact lo_zX9_seen_s0_17 f g q h
    · refine dA_V dA_tr (fun r1 _ => ?_)
      refine dA_if (fun _ => ?_) (fun _ => ?_)
      · exact lo_zX9_seen_s0_17 f g q h
      · refine dA_if (fun _ => ?_) (fun _ => ?_)
        · refine dA_G (fun _ => ?_)
          refine dA_L (fun q4 e_1 => ?_)
          have hq4 : Lo f g q4 := by rw [e_1]; exact h
          refine dA_G (fun _ => ?_)
          refine dA_L (fun q6 e_2 => ?_)
          have hq6 : Lo f g q6 := by rw [e_2]; exact hq4
          refine dA_L (fun q7 e_3 => ?_)
          have hq7 : Lo f g q7 := by rw [e_3]; exact hq6
          refine dA_B (lo_zX9_accept_s0 f g q7 (q7.1 1 6) hq7) (fun r8 q10 hq10 => ?_)
          exact dA_some hq10
        · refine dA_B (lo_zX9_refuse_s0 f g q (-5) h) (fun r11 q13 hq13 => ?_)
          exact dA_some hq13

theorem lo_zX9_forget_s0 (f g : Nat → Int64) (q : dK) (h : Lo f g q) : dAll (zX9_forget_s0 q) (fun o => Lo f g o.2) := by
  unfold zX9_forget_s0
  refine dA_L (fun q1 e_1 => ?_)
  have hq1 : Lo f g q1 := by rw [e_1]; exact h
  exact dA_some hq1

theorem lo_zX8_rankBehindTurn_s2_33 (f g : Nat → Int64) (q : dK) (y0 : Int32) (h : Lo f g q) : dAll (zX8_rankBehindTurn_s2_33 q y0) (fun o => Lo f g o.2) := by
  unfold zX8_rankBehindTurn_s2_33
  exact dA_some h

theorem lo_zX8_rankBehindTurn_s2_14 (f g : Nat → Int64) (q : dK) (y0 : Int32) (h : Lo f g q) : dAll (zX8_rankBehindTurn_s2_14 q y0) (fun o => Lo f g o.2) := by
  unfold zX8_rankBehindTurn_s2_14
  refine dA_B (lo_zX8_isFloor_s2 f g q y0 h) (fun r1 q3 hq3 => ?_)
  refine dA_if (fun _ => ?_) (fun _ => ?_)
  · exact lo_zX8_rankBehindTurn_s2_33 f g q3 (-1) hq3
  · refine dA_G (fun _ => ?_)
    refine dA_L (fun v5 e_1 => ?_)
    exact lo_zX8_rankBehindTurn_s2_33 f g q3 v5 hq3

theorem lo_zX8_rankBehindTurn_s2 (f g : Nat → Int64) (q : dK) (p1 : Int32) (p2 : Int32) (h : Lo f g q) : dAll (zX8_rankBehindTurn_s2 q p1 p2) (fun o => Lo f g o.2) := by
  unfold zX8_rankBehindTurn_s2
  refine dA_if (fun _ => ?_) (fun _ => ?_)
  · exact lo_zX8_rankBehindTurn_s2_14 f g q p2 h
  · exact lo_zX8_rankBehindTurn_s2_14 f g q ((p1 - 1 : Int32) - p2) h

theorem lo_zX6_agrees_s1_2b (f g : Nat → Int64) (k2 : dK → Int32 → Int32 → Option (Int32 × dK)) (hk2 : ∀ (y0 : dK) (y1 : Int32) (y2 : Int32), Lo f g y0 → dAll (k2 y0 y1 y2) (fun o => Lo f g o.2)) (q : dK) (x1 : Int32) (x2 : Int32) (h : Lo f g q) : dAll (zX6_agrees_s1_2b k2 q x1 x2) (fun o => Lo f g o.2) := by
  unfold zX6_agrees_s1_2b
  refine dA_if (fun _ => ?_) (fun _ => ?_)
  · exact dA_some h
  · refine dA_G (fun _ => ?_)
    refine dA_L (fun v2 e_1 => ?_)
    refine dA_B (lo_zX8_rankBehindTurn_s2 f g q x1 v2 h) (fun r3 q5 hq5 => ?_)
    refine dA_G (fun _ => ?_)
    refine dA_L (fun v7 e_2 => ?_)
    refine dA_if (fun _ => ?_) (fun _ => ?_)
    · exact hk2 q5 x1 (x2 + 1) hq5
    · exact dA_some hq5

theorem lo_zX6_agrees_s1_2 (f g : Nat → Int64) (n : Nat) (q : dK) (x1 : Int32) (x2 : Int32) (h : Lo f g q) : dAll (zX6_agrees_s1_2 n q x1 x2) (fun o => Lo f g o.2) := by
  unfold zX6_agrees_s1_2
  exact dA_fix (fun (a : dK × Int32 × Int32) => Lo f g a.1) (fun k hk a ha => lo_zX6_agrees_s1_2b f g  _ (fun q x1 x2 hq => hk (q, x1, x2) hq) a.1 a.2.1 a.2.2 ha) n _ h

theorem lo_zX6_agrees_s1 (f g : Nat → Int64) (q : dK) (p1 : Int32) (h : Lo f g q) : dAll (zX6_agrees_s1 q p1) (fun o => Lo f g o.2) := by
  unfold zX6_agrees_s1
  exact lo_zX6_agrees_s1_2 f g dF q p1 0 h

theorem lo_zX9_was_s0_55 (f g : Nat → Int64) (k9 : dK → Int32 → Int32 → Option (Int32 × dK)) (hk9 : ∀ (y0 : dK) (y1 : Int32) (y2 : Int32), Lo f g y0 → dAll (k9 y0 y1 y2) (fun o => Lo f g o.2)) (q : dK) (x2 : Int32) (x3 : Int32) (h : Lo f g q) : dAll (zX9_was_s0_55 k9 q x2 x3) (fun o => Lo f g o.2) := by
  unfold zX9_was_s0_55
  exact hk9 q x2 (x3 + 1) h

theorem lo_zX9_was_s0_9b (f g : Nat → Int64) (k9 : dK → Int32 → Int32 → Option (Int32 × dK)) (hk9 : ∀ (y0 : dK) (y1 : Int32) (y2 : Int32), Lo f g y0 → dAll (k9 y0 y1 y2) (fun o => Lo f g o.2)) (q : dK) (x2 : Int32) (x3 : Int32) (h : Lo f g q) : dAll (zX9_was_s0_9b k9 q x2 x3) (fun o => Lo f g o.2) := by
  unfold zX9_was_s0_9b
  refine dA_if (fun _ => ?_) (fun _ => ?_)
  · exact dA_some h
  · refine dA_B (lo_zX1_bars_s20_s2 f g q x3 h) (fun r1 q3 hq3 => ?_)
    refine dA_if (fun _ => ?_) (fun _ => ?_)
    · refine dA_B (lo_zX6_agrees_s1 f g q3 x3 hq3) (fun r4 q6 hq6 => ?_)
      refine dA_if (fun _ => ?_) (fun _ => ?_)
      · exact lo_zX9_was_s0_55 f g k9 hk9 q6 x2 x3 hq6
      · exact lo_zX9_was_s0_55 f g k9 hk9 q6 (x2 ||| (1 <<< ((x3 : Int32) &&& 31) : Int32)) x3 hq6
    · exact lo_zX9_was_s0_55 f g k9 hk9 q3 x2 x3 hq3

theorem lo_zX9_was_s0_9 (f g : Nat → Int64) (n : Nat) (q : dK) (x2 : Int32) (x3 : Int32) (h : Lo f g q) : dAll (zX9_was_s0_9 n q x2 x3) (fun o => Lo f g o.2) := by
  unfold zX9_was_s0_9
  exact dA_fix (fun (a : dK × Int32 × Int32) => Lo f g a.1) (fun k hk a ha => lo_zX9_was_s0_9b f g  _ (fun q x2 x3 hq => hk (q, x2, x3) hq) a.1 a.2.1 a.2.2 ha) n _ h

theorem lo_zX9_was_s0 (f g : Nat → Int64) (q : dK) (h : Lo f g q) : dAll (zX9_was_s0 q) (fun o => Lo f g o.2) := by
  unfold zX9_was_s0
  refine dA_V (lo_zX9_seated_s0 f g q h) (fun q3 hq3 => ?_)
  exact lo_zX9_was_s0_9 f g dF q3 0 1 hq3

theorem lo_zX8_mostAlike_s2_56 (f g : Nat → Int64) (k5 : dK → Int32 → Int32 → Int32 → Int32 → Option (Int32 × dK)) (hk5 : ∀ (y0 : dK) (y1 : Int32) (y2 : Int32) (y3 : Int32) (y4 : Int32), Lo f g y0 → dAll (k5 y0 y1 y2 y3 y4) (fun o => Lo f g o.2)) (k18 : dK → Int32 → Int32 → Int32 → Int32 → Int32 → Int32 → Option (Int32 × dK)) (hk18 : ∀ (y0 : dK) (y1 : Int32) (y2 : Int32) (y3 : Int32) (y4 : Int32) (y5 : Int32) (y6 : Int32), Lo f g y0 → dAll (k18 y0 y1 y2 y3 y4 y5 y6) (fun o => Lo f g o.2)) (q : dK) (x1 : Int32) (x2 : Int32) (x3 : Int32) (x4 : Int32) (x6 : Int32) (y0 : Int32) (y1 : Int32) (h : Lo f g q) : dAll (zX8_mostAlike_s2_56 k5 k18 q x1 x2 x3 x4 x6 y0 y1) (fun o => Lo f g o.2) := by
  unfold zX8_mostAlike_s2_56
  refine dA_V dA_tr (fun r1 _ => ?_)
  exact hk18 q x1 x2 x3 x4 (y1 + r1) (x6 + 1) h

theorem lo_zX8_mostAlike_s2_55 (f g : Nat → Int64) (k5 : dK → Int32 → Int32 → Int32 → Int32 → Option (Int32 × dK)) (hk5 : ∀ (y0 : dK) (y1 : Int32) (y2 : Int32) (y3 : Int32) (y4 : Int32), Lo f g y0 → dAll (k5 y0 y1 y2 y3 y4) (fun o => Lo f g o.2)) (k18 : dK → Int32 → Int32 → Int32 → Int32 → Int32 → Int32 → Option (Int32 × dK)) (hk18 : ∀ (y0 : dK) (y1 : Int32) (y2 : Int32) (y3 : Int32) (y4 : Int32) (y5 : Int32) (y6 : Int32), Lo f g y0 → dAll (k18 y0 y1 y2 y3 y4 y5 y6) (fun o => Lo f g o.2)) (q : dK) (x1 : Int32) (x2 : Int32) (x3 : Int32) (x4 : Int32) (x6 : Int32) (y0 : Int32) (h : Lo f g q) : dAll (zX8_mostAlike_s2_55 k5 k18 q x1 x2 x3 x4 x6 y0) (fun o => Lo f g o.2) := by
  unfold zX8_mostAlike_s2_55
  exact lo_zX8_mostAlike_s2_56 f g k5 hk5 k18 hk18 q x1 x2 x3 x4 x6 0 y0 h

theorem lo_zX8_mostAlike_s2_18b (f g : Nat → Int64) (k5 : dK → Int32 → Int32 → Int32 → Int32 → Option (Int32 × dK)) (hk5 : ∀ (y0 : dK) (y1 : Int32) (y2 : Int32) (y3 : Int32) (y4 : Int32), Lo f g y0 → dAll (k5 y0 y1 y2 y3 y4) (fun o => Lo f g o.2)) (k18 : dK → Int32 → Int32 → Int32 → Int32 → Int32 → Int32 → Option (Int32 × dK)) (hk18 : ∀ (y0 : dK) (y1 : Int32) (y2 : Int32) (y3 : Int32) (y4 : Int32) (y5 : Int32) (y6 : Int32), Lo f g y0 → dAll (k18 y0 y1 y2 y3 y4 y5 y6) (fun o => Lo f g o.2)) (q : dK) (x1 : Int32) (x2 : Int32) (x3 : Int32) (x4 : Int32) (x5 : Int32) (x6 : Int32) (h : Lo f g q) : dAll (zX8_mostAlike_s2_18b k5 k18 q x1 x2 x3 x4 x5 x6) (fun o => Lo f g o.2) := by
  unfold zX8_mostAlike_s2_18b
  refine dA_if (fun _ => ?_) (fun _ => ?_)
  · exact hk5 q x1 x2 (mxI x3 x5) (x4 + 1) h
  · refine dA_if (fun _ => ?_) (fun _ => ?_)
    · refine dA_B (lo_zX8_rankBehindTurn_s2 f g q x6 x2 h) (fun r1 q3 hq3 => ?_)
      refine dA_if (fun _ => ?_) (fun _ => ?_)
      · exact lo_zX8_mostAlike_s2_56 f g k5 hk5 k18 hk18 q3 x1 x2 x3 x4 x6 1 x5 hq3
      · exact lo_zX8_mostAlike_s2_55 f g k5 hk5 k18 hk18 q3 x1 x2 x3 x4 x6 x5 hq3
    · exact lo_zX8_mostAlike_s2_55 f g k5 hk5 k18 hk18 q x1 x2 x3 x4 x6 x5 h

theorem lo_zX8_mostAlike_s2_18 (f g : Nat → Int64) (k5 : dK → Int32 → Int32 → Int32 → Int32 → Option (Int32 × dK)) (hk5 : ∀ (y0 : dK) (y1 : Int32) (y2 : Int32) (y3 : Int32) (y4 : Int32), Lo f g y0 → dAll (k5 y0 y1 y2 y3 y4) (fun o => Lo f g o.2)) (n : Nat) (q : dK) (x1 : Int32) (x2 : Int32) (x3 : Int32) (x4 : Int32) (x5 : Int32) (x6 : Int32) (h : Lo f g q) : dAll (zX8_mostAlike_s2_18 k5 n q x1 x2 x3 x4 x5 x6) (fun o => Lo f g o.2) := by
  unfold zX8_mostAlike_s2_18
  exact dA_fix (fun (a : dK × Int32 × Int32 × Int32 × Int32 × Int32 × Int32) => Lo f g a.1) (fun k hk a ha => lo_zX8_mostAlike_s2_18b f g k5 hk5 _ (fun q x1 x2 x3 x4 x5 x6 hq => hk (q, x1, x2, x3, x4, x5, x6) hq) a.1 a.2.1 a.2.2.1 a.2.2.2.1 a.2.2.2.2.1 a.2.2.2.2.2.1 a.2.2.2.2.2.2 ha) n _ h

theorem lo_zX8_mostAlike_s2_5b (f g : Nat → Int64) (k5 : dK → Int32 → Int32 → Int32 → Int32 → Option (Int32 × dK)) (hk5 : ∀ (y0 : dK) (y1 : Int32) (y2 : Int32) (y3 : Int32) (y4 : Int32), Lo f g y0 → dAll (k5 y0 y1 y2 y3 y4) (fun o => Lo f g o.2)) (q : dK) (x1 : Int32) (x2 : Int32) (x3 : Int32) (x4 : Int32) (h : Lo f g q) : dAll (zX8_mostAlike_s2_5b k5 q x1 x2 x3 x4) (fun o => Lo f g o.2) := by
  unfold zX8_mostAlike_s2_5b
  refine dA_if (fun _ => ?_) (fun _ => ?_)
  · exact dA_some h
  · exact lo_zX8_mostAlike_s2_18 f g k5 hk5 dF q x1 x2 x3 x4 0 1 h

theorem lo_zX8_mostAlike_s2_5 (f g : Nat → Int64) (n : Nat) (q : dK) (x1 : Int32) (x2 : Int32) (x3 : Int32) (x4 : Int32) (h : Lo f g q) : dAll (zX8_mostAlike_s2_5 n q x1 x2 x3 x4) (fun o => Lo f g o.2) := by
  unfold zX8_mostAlike_s2_5
  exact dA_fix (fun (a : dK × Int32 × Int32 × Int32 × Int32) => Lo f g a.1) (fun k hk a ha => lo_zX8_mostAlike_s2_5b f g  _ (fun q x1 x2 x3 x4 hq => hk (q, x1, x2, x3, x4) hq) a.1 a.2.1 a.2.2.1 a.2.2.2.1 a.2.2.2.2 ha) n _ h

theorem lo_zX8_mostAlike_s2 (f g : Nat → Int64) (q : dK) (p1 : Int32) (p2 : Int32) (h : Lo f g q) : dAll (zX8_mostAlike_s2 q p1 p2) (fun o => Lo f g o.2) := by
  unfold zX8_mostAlike_s2
  exact lo_zX8_mostAlike_s2_5 f g dF q p1 p2 0 0 h

theorem lo_zX9_look_s0_97 (f g : Nat → Int64) (q : dK) (y0 : Int32) (h : Lo f g q) : dAll (zX9_look_s0_97 q y0) (fun o => Lo f g o.2) := by
  unfold zX9_look_s0_97
  exact dA_some h

theorem lo_zX9_look_s0_81 (f g : Nat → Int64) (k37 : dK → Int32 → Int32 → Int32 → Int32 → Int32 → Option (Int32 × dK)) (hk37 : ∀ (y0 : dK) (y1 : Int32) (y2 : Int32) (y3 : Int32) (y4 : Int32) (y5 : Int32), Lo f g y0 → dAll (k37 y0 y1 y2 y3 y4 y5) (fun o => Lo f g o.2)) (q : dK) (x1 : Int32) (x2 : Int32) (x3 : Int32) (x4 : Int32) (x5 : Int32) (h : Lo f g q) : dAll (zX9_look_s0_81 k37 q x1 x2 x3 x4 x5) (fun o => Lo f g o.2) := by
  unfold zX9_look_s0_81
  exact hk37 q x1 x2 x3 x4 (x5 + 1) h

theorem lo_zX9_look_s0_37b (f g : Nat → Int64) (k37 : dK → Int32 → Int32 → Int32 → Int32 → Int32 → Option (Int32 × dK)) (hk37 : ∀ (y0 : dK) (y1 : Int32) (y2 : Int32) (y3 : Int32) (y4 : Int32) (y5 : Int32), Lo f g y0 → dAll (k37 y0 y1 y2 y3 y4 y5) (fun o => Lo f g o.2)) (q : dK) (x1 : Int32) (x2 : Int32) (x3 : Int32) (x4 : Int32) (x5 : Int32) (h : Lo f g q) : dAll (zX9_look_s0_37b k37 q x1 x2 x3 x4 x5) (fun o => Lo f g o.2) := by
  unfold zX9_look_s0_37b
  refine dA_if (fun _ => ?_) (fun _ => ?_)
  · refine dA_if (fun _ => ?_) (fun _ => ?_)
    · exact lo_zX9_look_s0_97 f g q x3 h
    · exact lo_zX9_look_s0_97 f g q x4 h
  · refine dA_B (lo_zX8_mostAlike_s2 f g q x2 x5 h) (fun r1 q3 hq3 => ?_)
    refine dA_if (fun _ => ?_) (fun _ => ?_)
    · exact lo_zX9_look_s0_81 f g k37 hk37 q3 x1 x2 x3 x4 x5 hq3
    · exact lo_zX9_look_s0_81 f g k37 hk37 q3 x1 x2 x5 r1 x5 hq3

theorem lo_zX9_look_s0_37 (f g : Nat → Int64) (n : Nat) (q : dK) (x1 : Int32) (x2 : Int32) (x3 : Int32) (x4 : Int32) (x5 : Int32) (h : Lo f g q) : dAll (zX9_look_s0_37 n q x1 x2 x3 x4 x5) (fun o => Lo f g o.2) := by
  unfold zX9_look_s0_37
  exact dA_fix (fun (a : dK × Int32 × Int32 × Int32 × Int32 × Int32) => Lo f g a.1) (fun k hk a ha => lo_zX9_look_s0_37b f g  _ (fun q x1 x2 x3 x4 x5 hq => hk (q, x1, x2, x3, x4, x5) hq) a.1 a.2.1 a.2.2.1 a.2.2.2.1 a.2.2.2.2.1 a.2.2.2.2.2 ha) n _ h

theorem lo_zX9_look_s0_16 (f g : Nat → Int64) (q : dK) (h : Lo f g q) : dAll (zX9_look_s0_16 q) (fun o => Lo f g o.2) := by
  unfold zX9_look_s0_16
  exact dA_some h

theorem lo_zX9_look_s0 (f g : Nat → Int64) (q : dK) (p1 : Int32) (h : Lo f g q) : dAll (zX9_look_s0 q p1) (fun o => Lo f g o.2) := by
  unfold zX9_look_s0
  refine dA_B (lo_zX9_was_s0 f g q h) (fun r1 q3 hq3 => ?_)
  refine dA_if (fun _ => ?_) (fun _ => ?_)
  · exact lo_zX9_look_s0_16 f g q3 hq3
  · refine dA_V dA_tr (fun r4 _ => ?_)
    refine dA_if (fun _ => ?_) (fun _ => ?_)
    · exact lo_zX9_look_s0_16 f g q3 hq3
    · refine dA_B (lo_zX8_mostAlike_s2 f g q3 r1 0 hq3) (fun r6 q8 hq8 => ?_)
      exact lo_zX9_look_s0_37 f g dF q8 p1 r1 0 r6 1 hq8

theorem lo_zX9_few_s0_146b (f g : Nat → Int64) (k146 : dK → Int32 → Int64 → Int32 → Option (Int64 × dK)) (hk146 : ∀ (y0 : dK) (y1 : Int32) (y2 : Int64) (y3 : Int32), Lo f g y0 → dAll (k146 y0 y1 y2 y3) (fun o => Lo f g o.2)) (q : dK) (x1 : Int32) (x3 : Int64) (x5 : Int32) (h : Lo f g q) : dAll (zX9_few_s0_146b k146 q x1 x3 x5) (fun o => Lo f g o.2) := by
  unfold zX9_few_s0_146b
  refine dA_if (fun _ => ?_) (fun _ => ?_)
  · exact dA_some h
  · refine dA_G (fun _ => ?_)
    refine dA_L (fun v2 e_1 => ?_)
    exact hk146 q x1 (x3 + v2 : Int64) (x5 + 1) h

theorem lo_zX9_few_s0_146 (f g : Nat → Int64) (n : Nat) (q : dK) (x1 : Int32) (x3 : Int64) (x5 : Int32) (h : Lo f g q) : dAll (zX9_few_s0_146 n q x1 x3 x5) (fun o => Lo f g o.2) := by
  unfold zX9_few_s0_146
  exact dA_fix (fun (a : dK × Int32 × Int64 × Int32) => Lo f g a.1) (fun k hk a ha => lo_zX9_few_s0_146b f g  _ (fun q x1 x3 x5 hq => hk (q, x1, x3, x5) hq) a.1 a.2.1 a.2.2.1 a.2.2.2 ha) n _ h

theorem lo_zX9_few_s0_115 (f g : Nat → Int64) (k44 : dK → Int32 → Int32 → Int32 → Option (Int64 × dK)) (hk44 : ∀ (y0 : dK) (y1 : Int32) (y2 : Int32) (y3 : Int32), Lo f g y0 → dAll (k44 y0 y1 y2 y3) (fun o => Lo f g o.2)) (k54 : dK → Int32 → Int32 → Int32 → Int32 → Option (Int64 × dK)) (hk54 : ∀ (y0 : dK) (y1 : Int32) (y2 : Int32) (y3 : Int32) (y4 : Int32), Lo f g y0 → dAll (k54 y0 y1 y2 y3 y4) (fun o => Lo f g o.2)) (q : dK) (x1 : Int32) (x2 : Int32) (x3 : Int32) (x4 : Int32) (x5 : Int64) (y0 : Int64) (h : Lo f g q) : dAll (zX9_few_s0_115 k44 k54 q x1 x2 x3 x4 x5 y0) (fun o => Lo f g o.2) := by
  unfold zX9_few_s0_115
  refine dA_G (fun _ => ?_)
  refine dA_L (fun q2 e_1 => ?_)
  have hq2 : Lo f g q2 := by rw [e_1]; exact (lo_cul h (by decide) (by decide))
  exact hk54 q2 x1 x2 x3 (x4 + (-1)) hq2

theorem lo_zX9_few_s0_54b (f g : Nat → Int64) (k44 : dK → Int32 → Int32 → Int32 → Option (Int64 × dK)) (hk44 : ∀ (y0 : dK) (y1 : Int32) (y2 : Int32) (y3 : Int32), Lo f g y0 → dAll (k44 y0 y1 y2 y3) (fun o => Lo f g o.2)) (k54 : dK → Int32 → Int32 → Int32 → Int32 → Option (Int64 × dK)) (hk54 : ∀ (y0 : dK) (y1 : Int32) (y2 : Int32) (y3 : Int32) (y4 : Int32), Lo f g y0 → dAll (k54 y0 y1 y2 y3 y4) (fun o => Lo f g o.2)) (q : dK) (x1 : Int32) (x2 : Int32) (x3 : Int32) (x4 : Int32) (h : Lo f g q) : dAll (zX9_few_s0_54b k44 k54 q x1 x2 x3 x4) (fun o => Lo f g o.2) := by
  unfold zX9_few_s0_54b
  refine dA_if (fun _ => ?_) (fun _ => ?_)
  · exact hk44 q x1 x2 (x3 + 1) h
  · refine dA_G (fun _ => ?_)
    refine dA_L (fun v2 e_1 => ?_)
    refine dA_L (fun v3 e_2 => ?_)
    refine dA_if (fun _ => ?_) (fun _ => ?_)
    · exact lo_zX9_few_s0_115 f g k44 hk44 k54 hk54 q x1 x2 x3 x4 v3 0 h
    · refine dA_G (fun _ => ?_)
      refine dA_L (fun v5 e_3 => ?_)
      exact lo_zX9_few_s0_115 f g k44 hk44 k54 hk54 q x1 x2 x3 x4 v3 ((v5 * (Int32.toInt64 (q.1 1 1)) : Int64) / 10 : Int64) h

theorem lo_zX9_few_s0_54 (f g : Nat → Int64) (k44 : dK → Int32 → Int32 → Int32 → Option (Int64 × dK)) (hk44 : ∀ (y0 : dK) (y1 : Int32) (y2 : Int32) (y3 : Int32), Lo f g y0 → dAll (k44 y0 y1 y2 y3) (fun o => Lo f g o.2)) (n : Nat) (q : dK) (x1 : Int32) (x2 : Int32) (x3 : Int32) (x4 : Int32) (h : Lo f g q) : dAll (zX9_few_s0_54 k44 n q x1 x2 x3 x4) (fun o => Lo f g o.2) := by
  unfold zX9_few_s0_54
  exact dA_fix (fun (a : dK × Int32 × Int32 × Int32 × Int32) => Lo f g a.1) (fun k hk a ha => lo_zX9_few_s0_54b f g k44 hk44 _ (fun q x1 x2 x3 x4 hq => hk (q, x1, x2, x3, x4) hq) a.1 a.2.1 a.2.2.1 a.2.2.2.1 a.2.2.2.2 ha) n _ h

theorem lo_zX9_few_s0_44b (f g : Nat → Int64) (k44 : dK → Int32 → Int32 → Int32 → Option (Int64 × dK)) (hk44 : ∀ (y0 : dK) (y1 : Int32) (y2 : Int32) (y3 : Int32), Lo f g y0 → dAll (k44 y0 y1 y2 y3) (fun o => Lo f g o.2)) (q : dK) (x1 : Int32) (x2 : Int32) (x3 : Int32) (h : Lo f g q) : dAll (zX9_few_s0_44b k44 q x1 x2 x3) (fun o => Lo f g o.2) := by
  unfold zX9_few_s0_44b
  refine dA_if (fun _ => ?_) (fun _ => ?_)
  · exact lo_zX9_few_s0_146 f g dF q x1 0 0 h
  · exact lo_zX9_few_s0_54 f g k44 hk44 dF q x1 x2 x3 (x1 - 1 : Int32) h

theorem lo_zX9_few_s0_44 (f g : Nat → Int64) (n : Nat) (q : dK) (x1 : Int32) (x2 : Int32) (x3 : Int32) (h : Lo f g q) : dAll (zX9_few_s0_44 n q x1 x2 x3) (fun o => Lo f g o.2) := by
  unfold zX9_few_s0_44
  exact dA_fix (fun (a : dK × Int32 × Int32 × Int32) => Lo f g a.1) (fun k hk a ha => lo_zX9_few_s0_44b f g  _ (fun q x1 x2 x3 hq => hk (q, x1, x2, x3) hq) a.1 a.2.1 a.2.2.1 a.2.2.2 ha) n _ h

theorem lo_zX9_few_s0_21 (f g : Nat → Int64) (q : dK) (h : Lo f g q) : dAll (zX9_few_s0_21 q) (fun o => Lo f g o.2) := by
  unfold zX9_few_s0_21
  exact dA_some h

theorem lo_zX9_few_s0 (f g : Nat → Int64) (q : dK) (p1 : Int32) (p2 : Int32) (h : Lo f g q) : dAll (zX9_few_s0 q p1 p2) (fun o => Lo f g o.2) := by
  unfold zX9_few_s0
  refine dA_if (fun _ => ?_) (fun _ => ?_)
  · exact lo_zX9_few_s0_21 f g q h
  · refine dA_if (fun _ => ?_) (fun _ => ?_)
    · exact lo_zX9_few_s0_21 f g q h
    · refine dA_if (fun _ => ?_) (fun _ => ?_)
      · exact lo_zX9_few_s0_21 f g q h
      · refine dA_if (fun _ => ?_) (fun _ => ?_)
        · refine dA_L (fun q1 e_1 => ?_)
          have hq1 : Lo f g q1 := by rw [e_1]; exact (lo_cfl h (by decide) (by decide))
          refine dA_L (fun q2 e_2 => ?_)
          have hq2 : Lo f g q2 := by rw [e_2]; exact (lo_cul hq1 (by decide) (by decide))
          exact lo_zX9_few_s0_44 f g dF q2 p1 p2 0 hq2
        · exact lo_zX9_few_s0_21 f g q h

theorem lo_zX9_compare_s0_18 (f g : Nat → Int64) (nc : Nat) (ns : Nat) (q : dK) (x1 : Int32) (h : Lo f g q) : dAll (zX9_compare_s0_18 nc ns q x1) (fun o => Lo f g o.2) := by
  unfold zX9_compare_s0_18
  refine dA_B (lo_zX6_lawAt_s1 f g q x1 h) (fun r1 q3 hq3 => ?_)
  refine dA_if (fun _ => ?_) (fun _ => ?_)
  · refine dA_V (lo_zX1_seat_s20_n f g q3 (q3.1 1 2) hq3) (fun q7 hq7 => ?_)
    refine dA_V (lo_zX9_spread_s0_s20 f g nc ns q7 hq7) (fun q10 hq10 => ?_)
    refine dA_B (lo_zX3_turnsToOrder_s32 f g q10 hq10) (fun r11 q13 hq13 => ?_)
    exact dA_some hq13
  · refine dA_V (lo_zX1_seat_s20_l f g q3 r1 (q3.1 1 2) hq3) (fun q16 hq16 => ?_)
    refine dA_V (lo_zX9_spread_s0_s20 f g nc ns q16 hq16) (fun q19 hq19 => ?_)
    refine dA_B (lo_zX3_turnsToOrder_s32 f g q19 hq19) (fun r20 q22 hq22 => ?_)
    exact dA_some hq22

theorem lo_zX9_compare_s0 (f g : Nat → Int64) (nc : Nat) (ns : Nat) (q : dK) (p1 : Int32) (h : Lo f g q) : dAll (zX9_compare_s0 nc ns q p1) (fun o => Lo f g o.2) := by
  unfold zX9_compare_s0
  refine dA_if (fun _ => ?_) (fun _ => ?_)
  · exact lo_zX9_compare_s0_18 f g nc ns q p1 h
  · refine dA_B (lo_zX6_isLaw_s1 f g q p1 h) (fun r1 q3 hq3 => ?_)
    refine dA_if (fun _ => ?_) (fun _ => ?_)
    · exact dA_some hq3
    · exact lo_zX9_compare_s0_18 f g nc ns q3 p1 hq3

theorem lo_zX8_unpack_s15_31b (f g : Nat → Int64) (k31 : dK → Int64 → Int32 → Option (dK)) (hk31 : ∀ (y0 : dK) (y1 : Int64) (y2 : Int32), Lo f g y0 → dAll (k31 y0 y1 y2) (fun o => Lo f g o)) (q : dK) (x3 : Int64) (x5 : Int32) (h : Lo f g q) : dAll (zX8_unpack_s15_31b k31 q x3 x5) (fun o => Lo f g o) := by
  unfold zX8_unpack_s15_31b
  refine dA_if (fun _ => ?_) (fun _ => ?_)
  · refine dA_L (fun q1 e_1 => ?_)
    have hq1 : Lo f g q1 := by rw [e_1]; exact h
    exact dA_some hq1
  · refine dA_G (fun _ => ?_)
    refine dA_L (fun q3 e_2 => ?_)
    have hq3 : Lo f g q3 := by rw [e_2]; exact h
    refine dA_G (fun _ => ?_)
    refine dA_L (fun q5 e_3 => ?_)
    have hq5 : Lo f g q5 := by rw [e_3]; exact hq3
    exact hk31 q5 (x3 >>> (Int32.toInt64 (4 : Int32) &&& 63)) (x5 + (-1)) hq5

theorem lo_zX8_unpack_s15_31 (f g : Nat → Int64) (n : Nat) (q : dK) (x3 : Int64) (x5 : Int32) (h : Lo f g q) : dAll (zX8_unpack_s15_31 n q x3 x5) (fun o => Lo f g o) := by
  unfold zX8_unpack_s15_31
  exact dA_fix (fun (a : dK × Int64 × Int32) => Lo f g a.1) (fun k hk a ha => lo_zX8_unpack_s15_31b f g  _ (fun q x3 x5 hq => hk (q, x3, x5) hq) a.1 a.2.1 a.2.2 ha) n _ h

theorem lo_zX8_unpack_s15 (f g : Nat → Int64) (q : dK) (p1 : Int64) (h : Lo f g q) : dAll (zX8_unpack_s15 q p1) (fun o => Lo f g o) := by
  unfold zX8_unpack_s15
  refine dA_L (fun q1 e_1 => ?_)
  have hq1 : Lo f g q1 := by rw [e_1]; exact h
  refine dA_L (fun v2 e_2 => ?_)
  refine dA_L (fun q3 e_3 => ?_)
  have hq3 : Lo f g q3 := by rw [e_3]; exact hq1
  exact lo_zX8_unpack_s15_31 f g dF q3 (p1 >>> (Int32.toInt64 (24 : Int32) &&& 63)) 5 hq3

theorem lo_zX8_isFloor_s15_17 (f g : Nat → Int64) (q : dK) (y0 : Int32) (h : Lo f g q) : dAll (zX8_isFloor_s15_17 q y0) (fun o => Lo f g o.2) := by
  unfold zX8_isFloor_s15_17
  refine dA_G (fun _ => ?_)
  exact dA_some h

theorem lo_zX8_isFloor_s15_16 (f g : Nat → Int64) (q : dK) (h : Lo f g q) : dAll (zX8_isFloor_s15_16 q) (fun o => Lo f g o.2) := by
  unfold zX8_isFloor_s15_16
  exact lo_zX8_isFloor_s15_17 f g q 0 h

theorem lo_zX8_isFloor_s15 (f g : Nat → Int64) (q : dK) (p1 : Int32) (h : Lo f g q) : dAll (zX8_isFloor_s15 q p1) (fun o => Lo f g o.2) := by
  unfold zX8_isFloor_s15
  refine dA_if (fun _ => ?_) (fun _ => ?_)
  · exact lo_zX8_isFloor_s15_16 f g q h
  · refine dA_if (fun _ => ?_) (fun _ => ?_)
    · exact lo_zX8_isFloor_s15_16 f g q h
    · exact lo_zX8_isFloor_s15_17 f g q 1 h

theorem lo_zX8_tell_s15_36 (f g : Nat → Int64) (q : dK) (y0 : Int32) (h : Lo f g q) : dAll (zX8_tell_s15_36 q y0) (fun o => Lo f g o.2) := by
  unfold zX8_tell_s15_36
  exact dA_some h

theorem lo_zX8_tell_s15_15 (f g : Nat → Int64) (q : dK) (h : Lo f g q) : dAll (zX8_tell_s15_15 q) (fun o => Lo f g o.2) := by
  unfold zX8_tell_s15_15
  exact dA_some h

theorem lo_zX8_tell_s15 (f g : Nat → Int64) (q : dK) (p1 : Int32) (p2 : Int32) (h : Lo f g q) : dAll (zX8_tell_s15 q p1 p2) (fun o => Lo f g o.2) := by
  unfold zX8_tell_s15
  refine dA_B (lo_zX8_isFloor_s15 f g q p1 h) (fun r1 q3 hq3 => ?_)
  refine dA_if (fun _ => ?_) (fun _ => ?_)
  · exact lo_zX8_tell_s15_15 f g q3 hq3
  · refine dA_V dA_tr (fun r4 _ => ?_)
    refine dA_if (fun _ => ?_) (fun _ => ?_)
    · exact lo_zX8_tell_s15_15 f g q3 hq3
    · refine dA_if (fun _ => ?_) (fun _ => ?_)
      · refine dA_G (fun _ => ?_)
        refine dA_L (fun v9 e_1 => ?_)
        exact lo_zX8_tell_s15_36 f g q3 v9 hq3
      · refine dA_G (fun _ => ?_)
        refine dA_L (fun v7 e_2 => ?_)
        exact lo_zX8_tell_s15_36 f g q3 v7 hq3

theorem lo_zX1_setTurn_s20_s15 (f g : Nat → Int64) (q : dK) (p2 : Int32) (h : Lo f g q) : dAll (zX1_setTurn_s20_s15 q p2) (fun o => Lo f g o) := by
  unfold zX1_setTurn_s20_s15
  refine dA_V (lo_zX1_setCommon_s20 f g q (q.1 15 2) (q.1 15 4) h) (fun q3 hq3 => ?_)
  refine dA_B (lo_zX8_tell_s15 f g q3 0 0 hq3) (fun r4 q6 hq6 => ?_)
  refine dA_B (lo_zX8_tell_s15 f g q6 p2 0 hq6) (fun r7 q9 hq9 => ?_)
  refine dA_B (lo_zX8_tell_s15 f g q9 0 1 hq9) (fun r10 q12 hq12 => ?_)
  refine dA_V (lo_zX1_setGrip_s20 f g q12 p2 r4 r7 r10 hq12) (fun q15 hq15 => ?_)
  exact dA_some hq15

theorem lo_zX1_bars_s20_s15 (f g : Nat → Int64) (q : dK) (p2 : Int32) (h : Lo f g q) : dAll (zX1_bars_s20_s15 q p2) (fun o => Lo f g o.2) := by
  unfold zX1_bars_s20_s15
  refine dA_V (lo_zX1_setTurn_s20_s15 f g q p2 h) (fun q3 hq3 => ?_)
  refine dA_B (lo_zX1_anyHolds_s20 f g q3 1 hq3) (fun r4 q6 hq6 => ?_)
  refine dA_G (fun _ => ?_)
  exact dA_some hq6

theorem lo_zX1_payOf_s20_s15 (f g : Nat → Int64) (q : dK) (p2 : Int32) (h : Lo f g q) : dAll (zX1_payOf_s20_s15 q p2) (fun o => Lo f g o.2) := by
  unfold zX1_payOf_s20_s15
  refine dA_V (lo_zX1_setTurn_s20_s15 f g q p2 h) (fun q3 hq3 => ?_)
  refine dA_B (lo_zX1_pay_s20 f g q3 hq3) (fun r4 q6 hq6 => ?_)
  exact dA_some hq6

theorem lo_zX8_exchange_s15 (f g : Nat → Int64) (q : dK) (p1 : Int32) (p2 : Int32) (h : Lo f g q) : dAll (zX8_exchange_s15 q p1 p2) (fun o => Lo f g o) := by
  unfold zX8_exchange_s15
  refine dA_G (fun _ => ?_)
  refine dA_L (fun v2 e_1 => ?_)
  refine dA_G (fun _ => ?_)
  refine dA_L (fun v4 e_2 => ?_)
  refine dA_G (fun _ => ?_)
  refine dA_L (fun v6 e_3 => ?_)
  refine dA_G (fun _ => ?_)
  refine dA_L (fun q8 e_4 => ?_)
  have hq8 : Lo f g q8 := by rw [e_4]; exact h
  refine dA_G (fun _ => ?_)
  refine dA_L (fun v10 e_5 => ?_)
  refine dA_G (fun _ => ?_)
  refine dA_L (fun q12 e_6 => ?_)
  have hq12 : Lo f g q12 := by rw [e_6]; exact hq8
  refine dA_G (fun _ => ?_)
  refine dA_L (fun q14 e_7 => ?_)
  have hq14 : Lo f g q14 := by rw [e_7]; exact hq12
  refine dA_G (fun _ => ?_)
  refine dA_L (fun q16 e_8 => ?_)
  have hq16 : Lo f g q16 := by rw [e_8]; exact hq14
  exact dA_some hq16

theorem lo_zX8_turnTop_s15_s20_75b (f g : Nat → Int64) (k75 : dK → Int32 → Int32 → Int32 → Option (Int32 × dK)) (hk75 : ∀ (y0 : dK) (y1 : Int32) (y2 : Int32) (y3 : Int32), Lo f g y0 → dAll (k75 y0 y1 y2 y3) (fun o => Lo f g o.2)) (q : dK) (x1 : Int32) (x3 : Int32) (x4 : Int32) (h : Lo f g q) : dAll (zX8_turnTop_s15_s20_75b k75 q x1 x3 x4) (fun o => Lo f g o.2) := by
  unfold zX8_turnTop_s15_s20_75b
  refine dA_if (fun _ => ?_) (fun _ => ?_)
  · refine dA_L (fun q1 e_1 => ?_)
    have hq1 : Lo f g q1 := by rw [e_1]; exact h
    exact dA_some hq1
  · refine dA_G (fun _ => ?_)
    refine dA_L (fun v3 e_2 => ?_)
    refine dA_G (fun _ => ?_)
    refine dA_L (fun q5 e_3 => ?_)
    have hq5 : Lo f g q5 := by rw [e_3]; exact h
    exact hk75 q5 x1 x3 (x4 + 1) hq5

theorem lo_zX8_turnTop_s15_s20_75 (f g : Nat → Int64) (n : Nat) (q : dK) (x1 : Int32) (x3 : Int32) (x4 : Int32) (h : Lo f g q) : dAll (zX8_turnTop_s15_s20_75 n q x1 x3 x4) (fun o => Lo f g o.2) := by
  unfold zX8_turnTop_s15_s20_75
  exact dA_fix (fun (a : dK × Int32 × Int32 × Int32) => Lo f g a.1) (fun k hk a ha => lo_zX8_turnTop_s15_s20_75b f g  _ (fun q x1 x3 x4 hq => hk (q, x1, x3, x4) hq) a.1 a.2.1 a.2.2.1 a.2.2.2 ha) n _ h

theorem lo_zX8_turnTop_s15_s20_48b (f g : Nat → Int64) (k48 : dK → Int32 → Int32 → Int32 → Int32 → Option (Int32 × dK)) (hk48 : ∀ (y0 : dK) (y1 : Int32) (y2 : Int32) (y3 : Int32) (y4 : Int32), Lo f g y0 → dAll (k48 y0 y1 y2 y3 y4) (fun o => Lo f g o.2)) (q : dK) (x1 : Int32) (x3 : Int32) (x4 : Int32) (x5 : Int32) (h : Lo f g q) : dAll (zX8_turnTop_s15_s20_48b k48 q x1 x3 x4 x5) (fun o => Lo f g o.2) := by
  unfold zX8_turnTop_s15_s20_48b
  refine dA_if (fun _ => ?_) (fun _ => ?_)
  · exact lo_zX8_turnTop_s15_s20_75 f g dF q x1 x3 0 h
  · refine dA_V (lo_zX8_exchange_s15 f g q x4 x5 h) (fun q3 hq3 => ?_)
    exact hk48 q3 x1 x3 (x4 + 1) (x5 + (-1)) hq3

theorem lo_zX8_turnTop_s15_s20_48 (f g : Nat → Int64) (n : Nat) (q : dK) (x1 : Int32) (x3 : Int32) (x4 : Int32) (x5 : Int32) (h : Lo f g q) : dAll (zX8_turnTop_s15_s20_48 n q x1 x3 x4 x5) (fun o => Lo f g o.2) := by
  unfold zX8_turnTop_s15_s20_48
  exact dA_fix (fun (a : dK × Int32 × Int32 × Int32 × Int32) => Lo f g a.1) (fun k hk a ha => lo_zX8_turnTop_s15_s20_48b f g  _ (fun q x1 x3 x4 x5 hq => hk (q, x1, x3, x4, x5) hq) a.1 a.2.1 a.2.2.1 a.2.2.2.1 a.2.2.2.2 ha) n _ h

theorem lo_zX8_turnTop_s15_s20_30 (f g : Nat → Int64) (q : dK) (h : Lo f g q) : dAll (zX8_turnTop_s15_s20_30 q) (fun o => Lo f g o.2) := by
  unfold zX8_turnTop_s15_s20_30
  exact dA_some h

theorem lo_zX8_turnTop_s15_s20_11 (f g : Nat → Int64) (q : dK) (h : Lo f g q) : dAll (zX8_turnTop_s15_s20_11 q) (fun o => Lo f g o.2) := by
  unfold zX8_turnTop_s15_s20_11
  exact dA_some h

theorem lo_zX8_turnTop_s15_s20 (f g : Nat → Int64) (q : dK) (p1 : Int32) (h : Lo f g q) : dAll (zX8_turnTop_s15_s20 q p1) (fun o => Lo f g o.2) := by
  unfold zX8_turnTop_s15_s20
  refine dA_if (fun _ => ?_) (fun _ => ?_)
  · exact lo_zX8_turnTop_s15_s20_11 f g q h
  · refine dA_if (fun _ => ?_) (fun _ => ?_)
    · refine dA_if (fun _ => ?_) (fun _ => ?_)
      · exact lo_zX8_turnTop_s15_s20_30 f g q h
      · refine dA_B (lo_zX1_bars_s20_s15 f g q p1 h) (fun r1 q3 hq3 => ?_)
        refine dA_if (fun _ => ?_) (fun _ => ?_)
        · refine dA_B (lo_zX1_payOf_s20_s15 f g q3 p1 hq3) (fun r4 q6 hq6 => ?_)
          exact lo_zX8_turnTop_s15_s20_48 f g dF q6 p1 r4 0 (p1 - 1 : Int32) hq6
        · exact lo_zX8_turnTop_s15_s20_30 f g q3 hq3
    · exact lo_zX8_turnTop_s15_s20_11 f g q h

theorem lo_zX8_rightAt_s15_10 (f g : Nat → Int64) (q : dK) (h : Lo f g q) : dAll (zX8_rightAt_s15_10 q) (fun o => Lo f g o.2) := by
  unfold zX8_rightAt_s15_10
  exact dA_some h

theorem lo_zX8_rightAt_s15 (f g : Nat → Int64) (q : dK) (p1 : Int32) (h : Lo f g q) : dAll (zX8_rightAt_s15 q p1) (fun o => Lo f g o.2) := by
  unfold zX8_rightAt_s15
  refine dA_if (fun _ => ?_) (fun _ => ?_)
  · exact lo_zX8_rightAt_s15_10 f g q h
  · refine dA_if (fun _ => ?_) (fun _ => ?_)
    · refine dA_B (lo_zX8_isFloor_s15 f g q p1 h) (fun r1 q3 hq3 => ?_)
      refine dA_if (fun _ => ?_) (fun _ => ?_)
      · exact dA_some hq3
      · refine dA_G (fun _ => ?_)
        refine dA_L (fun v5 e_1 => ?_)
        refine dA_G (fun _ => ?_)
        refine dA_L (fun q7 e_2 => ?_)
        have hq7 : Lo f g q7 := by rw [e_2]; exact hq3
        refine dA_G (fun _ => ?_)
        refine dA_L (fun v9 e_3 => ?_)
        exact dA_some hq7
    · exact lo_zX8_rightAt_s15_10 f g q h

theorem lo_zX8_swapAt_s15_9 (f g : Nat → Int64) (q : dK) (h : Lo f g q) : dAll (zX8_swapAt_s15_9 q) (fun o => Lo f g o.2) := by
  unfold zX8_swapAt_s15_9
  exact dA_some h

theorem lo_zX8_swapAt_s15 (f g : Nat → Int64) (q : dK) (p1 : Int32) (h : Lo f g q) : dAll (zX8_swapAt_s15 q p1) (fun o => Lo f g o.2) := by
  unfold zX8_swapAt_s15
  refine dA_if (fun _ => ?_) (fun _ => ?_)
  · exact lo_zX8_swapAt_s15_9 f g q h
  · refine dA_if (fun _ => ?_) (fun _ => ?_)
    · refine dA_B (lo_zX8_isFloor_s15 f g q (p1 + 1 : Int32) h) (fun r1 q3 hq3 => ?_)
      refine dA_if (fun _ => ?_) (fun _ => ?_)
      · exact dA_some hq3
      · refine dA_V (lo_zX8_exchange_s15 f g q3 p1 (p1 + 1 : Int32) hq3) (fun q6 hq6 => ?_)
        refine dA_G (fun _ => ?_)
        refine dA_L (fun v8 e_1 => ?_)
        exact dA_some hq6
    · exact lo_zX8_swapAt_s15_9 f g q h

theorem lo_zX1_tips_s20_s15 (f g : Nat → Int64) (q : dK) (p2 : Int32) (h : Lo f g q) : dAll (zX1_tips_s20_s15 q p2) (fun o => Lo f g o.2) := by
  unfold zX1_tips_s20_s15
  refine dA_B (lo_zX8_isFloor_s15 f g q p2 h) (fun r1 q3 hq3 => ?_)
  refine dA_if (fun _ => ?_) (fun _ => ?_)
  · exact dA_some hq3
  · refine dA_V (lo_zX1_setCommon_s20 f g q3 (q3.1 15 2) (q3.1 15 4) hq3) (fun q6 hq6 => ?_)
    refine dA_L (fun q7 e_1 => ?_)
    have hq7 : Lo f g q7 := by rw [e_1]; exact hq6
    refine dA_L (fun q8 e_2 => ?_)
    have hq8 : Lo f g q8 := by rw [e_2]; exact hq7
    refine dA_L (fun q9 e_3 => ?_)
    have hq9 : Lo f g q9 := by rw [e_3]; exact hq8
    refine dA_G (fun _ => ?_)
    refine dA_L (fun v11 e_4 => ?_)
    refine dA_L (fun q12 e_5 => ?_)
    have hq12 : Lo f g q12 := by rw [e_5]; exact hq9
    refine dA_G (fun _ => ?_)
    refine dA_L (fun v14 e_6 => ?_)
    refine dA_L (fun q15 e_7 => ?_)
    have hq15 : Lo f g q15 := by rw [e_7]; exact hq12
    refine dA_L (fun q16 e_8 => ?_)
    have hq16 : Lo f g q16 := by rw [e_8]; exact hq15
    refine dA_B (lo_zX1_anyHolds_s20 f g q16 2 hq16) (fun r17 q19 hq19 => ?_)
    refine dA_G (fun _ => ?_)
    exact dA_some hq19

theorem lo_zX8_passYear_s15_s20_47b (f g : Nat → Int64) (k47 : dK → Int32 → Int32 → Option (Int32 × dK)) (hk47 : ∀ (y0 : dK) (y1 : Int32) (y2 : Int32), Lo f g y0 → dAll (k47 y0 y1 y2) (fun o => Lo f g o.2)) (q : dK) (x2 : Int32) (x3 : Int32) (h : Lo f g q) : dAll (zX8_passYear_s15_s20_47b k47 q x2 x3) (fun o => Lo f g o.2) := by
  unfold zX8_passYear_s15_s20_47b
  refine dA_if (fun _ => ?_) (fun _ => ?_)
  · refine dA_L (fun q1 e_1 => ?_)
    have hq1 : Lo f g q1 := by rw [e_1]; exact h
    refine dA_V dA_tr (fun r2 _ => ?_)
    exact dA_some hq1
  · refine dA_G (fun _ => ?_)
    refine dA_L (fun v5 e_2 => ?_)
    refine dA_G (fun _ => ?_)
    refine dA_L (fun q7 e_3 => ?_)
    have hq7 : Lo f g q7 := by rw [e_3]; exact h
    exact hk47 q7 x2 (x3 + 1) hq7

theorem lo_zX8_passYear_s15_s20_47 (f g : Nat → Int64) (n : Nat) (q : dK) (x2 : Int32) (x3 : Int32) (h : Lo f g q) : dAll (zX8_passYear_s15_s20_47 n q x2 x3) (fun o => Lo f g o.2) := by
  unfold zX8_passYear_s15_s20_47
  exact dA_fix (fun (a : dK × Int32 × Int32) => Lo f g a.1) (fun k hk a ha => lo_zX8_passYear_s15_s20_47b f g  _ (fun q x2 x3 hq => hk (q, x2, x3) hq) a.1 a.2.1 a.2.2 ha) n _ h

theorem lo_zX8_passYear_s15_s20_17b (f g : Nat → Int64) (k17 : dK → Int32 → Int32 → Option (Int32 × dK)) (hk17 : ∀ (y0 : dK) (y1 : Int32) (y2 : Int32), Lo f g y0 → dAll (k17 y0 y1 y2) (fun o => Lo f g o.2)) (q : dK) (x2 : Int32) (x3 : Int32) (h : Lo f g q) : dAll (zX8_passYear_s15_s20_17b k17 q x2 x3) (fun o => Lo f g o.2) := by
  unfold zX8_passYear_s15_s20_17b
  refine dA_if (fun _ => ?_) (fun _ => ?_)
  · exact lo_zX8_passYear_s15_s20_47 f g dF q x2 0 h
  · refine dA_B (lo_zX1_tips_s20_s15 f g q x3 h) (fun r1 q3 hq3 => ?_)
    refine dA_V dA_tr (fun r4 _ => ?_)
    exact hk17 q3 (x2 ||| (r4 <<< ((x3 : Int32) &&& 31))) (x3 + 1) hq3

theorem lo_zX8_passYear_s15_s20_17 (f g : Nat → Int64) (n : Nat) (q : dK) (x2 : Int32) (x3 : Int32) (h : Lo f g q) : dAll (zX8_passYear_s15_s20_17 n q x2 x3) (fun o => Lo f g o.2) := by
  unfold zX8_passYear_s15_s20_17
  exact dA_fix (fun (a : dK × Int32 × Int32) => Lo f g a.1) (fun k hk a ha => lo_zX8_passYear_s15_s20_17b f g  _ (fun q x2 x3 hq => hk (q, x2, x3) hq) a.1 a.2.1 a.2.2 ha) n _ h

theorem lo_zX8_passYear_s15_s20 (f g : Nat → Int64) (q : dK) (h : Lo f g q) : dAll (zX8_passYear_s15_s20 q) (fun o => Lo f g o.2) := by
  unfold zX8_passYear_s15_s20
  refine dA_if (fun _ => ?_) (fun _ => ?_)
  · exact lo_zX8_passYear_s15_s20_17 f g dF q 0 0 h
  · exact dA_some h

theorem lo_zX8_act_s15_s20 (f g : Nat → Int64) (q : dK) (p1 : Int32) (p2 : Int32) (h : Lo f g q) : dAll (zX8_act_s15_s20 q p1 p2) (fun o => Lo f g o.2) := by
  unfold zX8_act_s15_s20
  refine dA_if (fun _ => ?_) (fun _ => ?_)
  · refine dA_B (lo_zX8_turnTop_s15_s20 f g q p2 h) (fun r2 q4 hq4 => ?_)
    exact dA_some hq4
  · refine dA_if (fun _ => ?_) (fun _ => ?_)
    · refine dA_B (lo_zX8_rightAt_s15 f g q p2 h) (fun r6 q8 hq8 => ?_)
      exact dA_some hq8
    · refine dA_if (fun _ => ?_) (fun _ => ?_)
      · refine dA_B (lo_zX8_swapAt_s15 f g q p2 h) (fun r10 q12 hq12 => ?_)
        exact dA_some hq12
      · refine dA_if (fun _ => ?_) (fun _ => ?_)
        · refine dA_B (lo_zX8_passYear_s15_s20 f g q h) (fun r14 q16 hq16 => ?_)
          exact dA_some hq16
        · exact dA_some h

theorem lo_zX9_years_s0_172 (f g : Nat → Int64) (q : dK) (h : Lo f g q) : dAll (zX9_years_s0_172 q) (fun o => Lo f g o.2) := by
  unfold zX9_years_s0_172
  refine dA_B (lo_zX9_accept_s0 f g q ((q.1 15 3) - (q.1 2 3)) h) (fun r1 q3 hq3 => ?_)
  exact dA_some hq3

theorem lo_zX9_years_s0_152 (f g : Nat → Int64) (k75 : dK → Int32 → Int32 → Int32 → Option (Int32 × dK)) (hk75 : ∀ (y0 : dK) (y1 : Int32) (y2 : Int32) (y3 : Int32), Lo f g y0 → dAll (k75 y0 y1 y2 y3) (fun o => Lo f g o.2)) (q : dK) (x2 : Int32) (x3 : Int32) (x4 : Int32) (h : Lo f g q) : dAll (zX9_years_s0_152 k75 q x2 x3 x4) (fun o => Lo f g o.2) := by
  unfold zX9_years_s0_152
  refine dA_B (lo_zX8_act_s15_s20 f g q 3 0 h) (fun r1 q3 hq3 => ?_)
  exact hk75 q3 x2 x3 (x4 + 1) hq3

theorem lo_zX9_years_s0_75b (f g : Nat → Int64) (k75 : dK → Int32 → Int32 → Int32 → Option (Int32 × dK)) (hk75 : ∀ (y0 : dK) (y1 : Int32) (y2 : Int32) (y3 : Int32), Lo f g y0 → dAll (k75 y0 y1 y2 y3) (fun o => Lo f g o.2)) (q : dK) (x2 : Int32) (x3 : Int32) (x4 : Int32) (h : Lo f g q) : dAll (zX9_years_s0_75b k75 q x2 x3 x4) (fun o => Lo f g o.2) := by
  unfold zX9_years_s0_75b
  refine dA_if (fun _ => ?_) (fun _ => ?_)
  · exact lo_zX9_years_s0_172 f g q h
  · refine dA_if (fun _ => ?_) (fun _ => ?_)
    · exact lo_zX9_years_s0_172 f g q h
    · refine dA_V dA_tr (fun r1 _ => ?_)
      refine dA_V dA_tr (fun r3 _ => ?_)
      refine dA_if (fun _ => ?_) (fun _ => ?_)
      · refine dA_B (lo_zX8_act_s15_s20 f g q 1 (r1 - r1 / 6 * 6 : Int32) h) (fun r8 q10 hq10 => ?_)
        exact lo_zX9_years_s0_152 f g k75 hk75 q10 x2 r3 x4 hq10
      · refine dA_B (lo_zX8_act_s15_s20 f g q 0 ((r1 - r1 / 6 * 6 : Int32) + 1 : Int32) h) (fun r5 q7 hq7 => ?_)
        exact lo_zX9_years_s0_152 f g k75 hk75 q7 x2 r3 x4 hq7

theorem lo_zX9_years_s0_75 (f g : Nat → Int64) (n : Nat) (q : dK) (x2 : Int32) (x3 : Int32) (x4 : Int32) (h : Lo f g q) : dAll (zX9_years_s0_75 n q x2 x3 x4) (fun o => Lo f g o.2) := by
  unfold zX9_years_s0_75
  exact dA_fix (fun (a : dK × Int32 × Int32 × Int32) => Lo f g a.1) (fun k hk a ha => lo_zX9_years_s0_75b f g  _ (fun q x2 x3 x4 hq => hk (q, x2, x3, x4) hq) a.1 a.2.1 a.2.2.1 a.2.2.2 ha) n _ h

theorem lo_zX9_years_s0_22 (f g : Nat → Int64) (q : dK) (h : Lo f g q) : dAll (zX9_years_s0_22 q) (fun o => Lo f g o.2) := by
  unfold zX9_years_s0_22
  refine dA_B (lo_zX9_refuse_s0 f g q (-1) h) (fun r1 q3 hq3 => ?_)
  exact dA_some hq3

theorem lo_zX9_years_s0 (f g : Nat → Int64) (q : dK) (p1 : Int32) (p2 : Int32) (h : Lo f g q) : dAll (zX9_years_s0 q p1 p2) (fun o => Lo f g o.2) := by
  unfold zX9_years_s0
  refine dA_if (fun _ => ?_) (fun _ => ?_)
  · exact lo_zX9_years_s0_22 f g q h
  · refine dA_if (fun _ => ?_) (fun _ => ?_)
    · exact lo_zX9_years_s0_22 f g q h
    · refine dA_if (fun _ => ?_) (fun _ => ?_)
      · exact lo_zX9_years_s0_22 f g q h
      · refine dA_if (fun _ => ?_) (fun _ => ?_)
        · refine dA_if (fun _ => ?_) (fun _ => ?_)
          · refine dA_B (lo_zX9_refuse_s0 f g q (-3) h) (fun r10 q12 hq12 => ?_)
            exact dA_some hq12
          · refine dA_B (lo_zX8_pack_s2 f g q h) (fun r1 q3 hq3 => ?_)
            refine dA_V (lo_zX8_unpack_s15 f g q3 r1 hq3) (fun q6 hq6 => ?_)
            refine dA_V (lo_zX9_seated_s0 f g q6 hq6) (fun q9 hq9 => ?_)
            exact lo_zX9_years_s0_75 f g dF q9 p2 p1 0 hq9
        · exact lo_zX9_years_s0_22 f g q h

theorem lo_zX9_drawn_s0 (f g : Nat → Int64) (q : dK) (p1 : Int32) (p2 : Int32) (h : Lo f g q) : dAll (zX9_drawn_s0 q p1 p2) (fun o => Lo f g o.2) := by
  unfold zX9_drawn_s0
  refine dA_B (lo_zX8_tell_s15 f g q p1 p2 h) (fun r1 q3 hq3 => ?_)
  exact dA_some hq3

theorem lo_zX8_unpack_s50_31b (f g : Nat → Int64) (k31 : dK → Int64 → Int32 → Option (dK)) (hk31 : ∀ (y0 : dK) (y1 : Int64) (y2 : Int32), Lo f g y0 → dAll (k31 y0 y1 y2) (fun o => Lo f g o)) (q : dK) (x3 : Int64) (x5 : Int32) (h : Lo f g q) : dAll (zX8_unpack_s50_31b k31 q x3 x5) (fun o => Lo f g o) := by
  unfold zX8_unpack_s50_31b
  refine dA_if (fun _ => ?_) (fun _ => ?_)
  · refine dA_L (fun q1 e_1 => ?_)
    have hq1 : Lo f g q1 := by rw [e_1]; exact h
    exact dA_some hq1
  · refine dA_G (fun _ => ?_)
    refine dA_L (fun q3 e_2 => ?_)
    have hq3 : Lo f g q3 := by rw [e_2]; exact h
    refine dA_G (fun _ => ?_)
    refine dA_L (fun q5 e_3 => ?_)
    have hq5 : Lo f g q5 := by rw [e_3]; exact hq3
    exact hk31 q5 (x3 >>> (Int32.toInt64 (4 : Int32) &&& 63)) (x5 + (-1)) hq5

theorem lo_zX8_unpack_s50_31 (f g : Nat → Int64) (n : Nat) (q : dK) (x3 : Int64) (x5 : Int32) (h : Lo f g q) : dAll (zX8_unpack_s50_31 n q x3 x5) (fun o => Lo f g o) := by
  unfold zX8_unpack_s50_31
  exact dA_fix (fun (a : dK × Int64 × Int32) => Lo f g a.1) (fun k hk a ha => lo_zX8_unpack_s50_31b f g  _ (fun q x3 x5 hq => hk (q, x3, x5) hq) a.1 a.2.1 a.2.2 ha) n _ h

theorem lo_zX8_unpack_s50 (f g : Nat → Int64) (q : dK) (p1 : Int64) (h : Lo f g q) : dAll (zX8_unpack_s50 q p1) (fun o => Lo f g o) := by
  unfold zX8_unpack_s50
  refine dA_L (fun q1 e_1 => ?_)
  have hq1 : Lo f g q1 := by rw [e_1]; exact h
  refine dA_L (fun v2 e_2 => ?_)
  refine dA_L (fun q3 e_3 => ?_)
  have hq3 : Lo f g q3 := by rw [e_3]; exact hq1
  exact lo_zX8_unpack_s50_31 f g dF q3 (p1 >>> (Int32.toInt64 (24 : Int32) &&& 63)) 5 hq3

theorem lo_zX6_copyFrom_s49_s1_94b (f g : Nat → Int64) (k94 : dK → Int32 → Option (dK)) (hk94 : ∀ (y0 : dK) (y1 : Int32), Lo f g y0 → dAll (k94 y0 y1) (fun o => Lo f g o)) (q : dK) (x2 : Int32) (h : Lo f g q) : dAll (zX6_copyFrom_s49_s1_94b k94 q x2) (fun o => Lo f g o) := by
  unfold zX6_copyFrom_s49_s1_94b
  refine dA_if (fun _ => ?_) (fun _ => ?_)
  · refine dA_L (fun q1 e_1 => ?_)
    have hq1 : Lo f g q1 := by rw [e_1]; exact h
    exact dA_some hq1
  · refine dA_G (fun _ => ?_)
    refine dA_L (fun v3 e_2 => ?_)
    refine dA_G (fun _ => ?_)
    refine dA_if (fun _ => ?_) (fun _ => ?_)
    · refine dA_L (fun q6 e_3 => ?_)
      have hq6 : Lo f g q6 := by rw [e_3]; exact h
      exact hk94 q6 (x2 + 1) hq6
    · refine dA_G (fun _ => ?_)
      refine dA_L (fun q8 e_4 => ?_)
      have hq8 : Lo f g q8 := by rw [e_4]; exact h
      exact hk94 q8 (x2 + 1) hq8

theorem lo_zX6_copyFrom_s49_s1_94 (f g : Nat → Int64) (n : Nat) (q : dK) (x2 : Int32) (h : Lo f g q) : dAll (zX6_copyFrom_s49_s1_94 n q x2) (fun o => Lo f g o) := by
  unfold zX6_copyFrom_s49_s1_94
  exact dA_fix (fun (a : dK × Int32) => Lo f g a.1) (fun k hk a ha => lo_zX6_copyFrom_s49_s1_94b f g  _ (fun q x2 hq => hk (q, x2) hq) a.1 a.2 ha) n _ h

theorem lo_zX6_copyFrom_s49_s1_48b (f g : Nat → Int64) (k48 : dK → Int32 → Option (dK)) (hk48 : ∀ (y0 : dK) (y1 : Int32), Lo f g y0 → dAll (k48 y0 y1) (fun o => Lo f g o)) (q : dK) (x2 : Int32) (h : Lo f g q) : dAll (zX6_copyFrom_s49_s1_48b k48 q x2) (fun o => Lo f g o) := by
  unfold zX6_copyFrom_s49_s1_48b
  refine dA_if (fun _ => ?_) (fun _ => ?_)
  · refine dA_L (fun q1 e_1 => ?_)
    have hq1 : Lo f g q1 := by rw [e_1]; exact h
    exact lo_zX6_copyFrom_s49_s1_94 f g dF q1 0 hq1
  · refine dA_G (fun _ => ?_)
    refine dA_L (fun v3 e_2 => ?_)
    refine dA_G (fun _ => ?_)
    refine dA_L (fun q5 e_3 => ?_)
    have hq5 : Lo f g q5 := by rw [e_3]; exact h
    refine dA_G (fun _ => ?_)
    refine dA_L (fun v7 e_4 => ?_)
    refine dA_G (fun _ => ?_)
    refine dA_L (fun q9 e_5 => ?_)
    have hq9 : Lo f g q9 := by rw [e_5]; exact hq5
    exact hk48 q9 (x2 + 1) hq9

theorem lo_zX6_copyFrom_s49_s1_48 (f g : Nat → Int64) (n : Nat) (q : dK) (x2 : Int32) (h : Lo f g q) : dAll (zX6_copyFrom_s49_s1_48 n q x2) (fun o => Lo f g o) := by
  unfold zX6_copyFrom_s49_s1_48
  exact dA_fix (fun (a : dK × Int32) => Lo f g a.1) (fun k hk a ha => lo_zX6_copyFrom_s49_s1_48b f g  _ (fun q x2 hq => hk (q, x2) hq) a.1 a.2 ha) n _ h

theorem lo_zX6_copyFrom_s49_s1 (f g : Nat → Int64) (q : dK) (h : Lo f g q) : dAll (zX6_copyFrom_s49_s1 q) (fun o => Lo f g o) := by
  unfold zX6_copyFrom_s49_s1
  refine dA_B (lo_zX8_pack_s2 f g q h) (fun r1 q3 hq3 => ?_)
  refine dA_V (lo_zX8_unpack_s50 f g q3 r1 hq3) (fun q6 hq6 => ?_)
  refine dA_L (fun q7 e_1 => ?_)
  have hq7 : Lo f g q7 := by rw [e_1]; exact hq6
  refine dA_L (fun q8 e_2 => ?_)
  have hq8 : Lo f g q8 := by rw [e_2]; exact hq7
  refine dA_L (fun q9 e_3 => ?_)
  have hq9 : Lo f g q9 := by rw [e_3]; exact hq8
  refine dA_L (fun q10 e_4 => ?_)
  have hq10 : Lo f g q10 := by rw [e_4]; exact hq9
  exact lo_zX6_copyFrom_s49_s1_48 f g dF q10 0 hq10

theorem lo_zX8_unpack_s57_31b (f g : Nat → Int64) (k31 : dK → Int64 → Int32 → Option (dK)) (hk31 : ∀ (y0 : dK) (y1 : Int64) (y2 : Int32), Lo f g y0 → dAll (k31 y0 y1 y2) (fun o => Lo f g o)) (q : dK) (x3 : Int64) (x5 : Int32) (h : Lo f g q) : dAll (zX8_unpack_s57_31b k31 q x3 x5) (fun o => Lo f g o) := by
  unfold zX8_unpack_s57_31b
  refine dA_if (fun _ => ?_) (fun _ => ?_)
  · refine dA_L (fun q1 e_1 => ?_)
    have hq1 : Lo f g q1 := by rw [e_1]; exact h
    exact dA_some hq1
  · refine dA_G (fun _ => ?_)
    refine dA_L (fun q3 e_2 => ?_)
    have hq3 : Lo f g q3 := by rw [e_2]; exact h
    refine dA_G (fun _ => ?_)
    refine dA_L (fun q5 e_3 => ?_)
    have hq5 : Lo f g q5 := by rw [e_3]; exact hq3
    exact hk31 q5 (x3 >>> (Int32.toInt64 (4 : Int32) &&& 63)) (x5 + (-1)) hq5

theorem lo_zX8_unpack_s57_31 (f g : Nat → Int64) (n : Nat) (q : dK) (x3 : Int64) (x5 : Int32) (h : Lo f g q) : dAll (zX8_unpack_s57_31 n q x3 x5) (fun o => Lo f g o) := by
  unfold zX8_unpack_s57_31
  exact dA_fix (fun (a : dK × Int64 × Int32) => Lo f g a.1) (fun k hk a ha => lo_zX8_unpack_s57_31b f g  _ (fun q x3 x5 hq => hk (q, x3, x5) hq) a.1 a.2.1 a.2.2 ha) n _ h

theorem lo_zX8_unpack_s57 (f g : Nat → Int64) (q : dK) (p1 : Int64) (h : Lo f g q) : dAll (zX8_unpack_s57 q p1) (fun o => Lo f g o) := by
  unfold zX8_unpack_s57
  refine dA_L (fun q1 e_1 => ?_)
  have hq1 : Lo f g q1 := by rw [e_1]; exact h
  refine dA_L (fun v2 e_2 => ?_)
  refine dA_L (fun q3 e_3 => ?_)
  have hq3 : Lo f g q3 := by rw [e_3]; exact hq1
  exact lo_zX8_unpack_s57_31 f g dF q3 (p1 >>> (Int32.toInt64 (24 : Int32) &&& 63)) 5 hq3

theorem lo_zX6_copyFrom_s56_s1_94b (f g : Nat → Int64) (k94 : dK → Int32 → Option (dK)) (hk94 : ∀ (y0 : dK) (y1 : Int32), Lo f g y0 → dAll (k94 y0 y1) (fun o => Lo f g o)) (q : dK) (x2 : Int32) (h : Lo f g q) : dAll (zX6_copyFrom_s56_s1_94b k94 q x2) (fun o => Lo f g o) := by
  unfold zX6_copyFrom_s56_s1_94b
  refine dA_if (fun _ => ?_) (fun _ => ?_)
  · refine dA_L (fun q1 e_1 => ?_)
    have hq1 : Lo f g q1 := by rw [e_1]; exact h
    exact dA_some hq1
  · refine dA_G (fun _ => ?_)
    refine dA_L (fun v3 e_2 => ?_)
    refine dA_G (fun _ => ?_)
    refine dA_if (fun _ => ?_) (fun _ => ?_)
    · refine dA_L (fun q6 e_3 => ?_)
      have hq6 : Lo f g q6 := by rw [e_3]; exact h
      exact hk94 q6 (x2 + 1) hq6
    · refine dA_G (fun _ => ?_)
      refine dA_L (fun q8 e_4 => ?_)
      have hq8 : Lo f g q8 := by rw [e_4]; exact h
      exact hk94 q8 (x2 + 1) hq8

theorem lo_zX6_copyFrom_s56_s1_94 (f g : Nat → Int64) (n : Nat) (q : dK) (x2 : Int32) (h : Lo f g q) : dAll (zX6_copyFrom_s56_s1_94 n q x2) (fun o => Lo f g o) := by
  unfold zX6_copyFrom_s56_s1_94
  exact dA_fix (fun (a : dK × Int32) => Lo f g a.1) (fun k hk a ha => lo_zX6_copyFrom_s56_s1_94b f g  _ (fun q x2 hq => hk (q, x2) hq) a.1 a.2 ha) n _ h

theorem lo_zX6_copyFrom_s56_s1_48b (f g : Nat → Int64) (k48 : dK → Int32 → Option (dK)) (hk48 : ∀ (y0 : dK) (y1 : Int32), Lo f g y0 → dAll (k48 y0 y1) (fun o => Lo f g o)) (q : dK) (x2 : Int32) (h : Lo f g q) : dAll (zX6_copyFrom_s56_s1_48b k48 q x2) (fun o => Lo f g o) := by
  unfold zX6_copyFrom_s56_s1_48b
  refine dA_if (fun _ => ?_) (fun _ => ?_)
  · refine dA_L (fun q1 e_1 => ?_)
    have hq1 : Lo f g q1 := by rw [e_1]; exact h
    exact lo_zX6_copyFrom_s56_s1_94 f g dF q1 0 hq1
  · refine dA_G (fun _ => ?_)
    refine dA_L (fun v3 e_2 => ?_)
    refine dA_G (fun _ => ?_)
    refine dA_L (fun q5 e_3 => ?_)
    have hq5 : Lo f g q5 := by rw [e_3]; exact h
    refine dA_G (fun _ => ?_)
    refine dA_L (fun v7 e_4 => ?_)
    refine dA_G (fun _ => ?_)
    refine dA_L (fun q9 e_5 => ?_)
    have hq9 : Lo f g q9 := by rw [e_5]; exact hq5
    exact hk48 q9 (x2 + 1) hq9

theorem lo_zX6_copyFrom_s56_s1_48 (f g : Nat → Int64) (n : Nat) (q : dK) (x2 : Int32) (h : Lo f g q) : dAll (zX6_copyFrom_s56_s1_48 n q x2) (fun o => Lo f g o) := by
  unfold zX6_copyFrom_s56_s1_48
  exact dA_fix (fun (a : dK × Int32) => Lo f g a.1) (fun k hk a ha => lo_zX6_copyFrom_s56_s1_48b f g  _ (fun q x2 hq => hk (q, x2) hq) a.1 a.2 ha) n _ h

theorem lo_zX6_copyFrom_s56_s1 (f g : Nat → Int64) (q : dK) (h : Lo f g q) : dAll (zX6_copyFrom_s56_s1 q) (fun o => Lo f g o) := by
  unfold zX6_copyFrom_s56_s1
  refine dA_B (lo_zX8_pack_s2 f g q h) (fun r1 q3 hq3 => ?_)
  refine dA_V (lo_zX8_unpack_s57 f g q3 r1 hq3) (fun q6 hq6 => ?_)
  refine dA_L (fun q7 e_1 => ?_)
  have hq7 : Lo f g q7 := by rw [e_1]; exact hq6
  refine dA_L (fun q8 e_2 => ?_)
  have hq8 : Lo f g q8 := by rw [e_2]; exact hq7
  refine dA_L (fun q9 e_3 => ?_)
  have hq9 : Lo f g q9 := by rw [e_3]; exact hq8
  refine dA_L (fun q10 e_4 => ?_)
  have hq10 : Lo f g q10 := by rw [e_4]; exact hq9
  exact lo_zX6_copyFrom_s56_s1_48 f g dF q10 0 hq10

theorem lo_zX9_image_s0 (f g : Nat → Int64) (q : dK) (p1 : Int32) (h : Lo f g q) : dAll (zX9_image_s0 q p1) (fun o => Lo f g o.2) := by
  unfold zX9_image_s0
  refine dA_V dA_tr (fun r1 _ => ?_)
  refine dA_if (fun _ => ?_) (fun _ => ?_)
  · refine dA_B (lo_zX9_refuse_s0 f g q (-1) h) (fun r22 q24 hq24 => ?_)
    exact dA_some hq24
  · refine dA_G (fun _ => ?_)
    refine dA_if (fun _ => ?_) (fun _ => ?_)
    · refine dA_V (lo_zX6_copyFrom_s49_s1 f g q h) (fun q7 hq7 => ?_)
      refine dA_G (fun _ => ?_)
      refine dA_L (fun q9 e_1 => ?_)
      have hq9 : Lo f g q9 := by rw [e_1]; exact hq7
      refine dA_B (lo_zX9_accept_s0 f g q9 0 hq9) (fun r10 q12 hq12 => ?_)
      exact dA_some hq12
    · refine dA_G (fun _ => ?_)
      refine dA_V (lo_zX6_copyFrom_s56_s1 f g q h) (fun q16 hq16 => ?_)
      refine dA_G (fun _ => ?_)
      refine dA_L (fun q18 e_2 => ?_)
      have hq18 : Lo f g q18 := by rw [e_2]; exact hq16
      refine dA_B (lo_zX9_accept_s0 f g q18 0 hq18) (fun r19 q21 hq21 => ?_)
      exact dA_some hq21

theorem lo_zX8_pack_s50_8b (f g : Nat → Int64) (k8 : dK → Int64 → Int32 → Option (Int64 × dK)) (hk8 : ∀ (y0 : dK) (y1 : Int64) (y2 : Int32), Lo f g y0 → dAll (k8 y0 y1 y2) (fun o => Lo f g o.2)) (q : dK) (x1 : Int64) (x3 : Int32) (h : Lo f g q) : dAll (zX8_pack_s50_8b k8 q x1 x3) (fun o => Lo f g o.2) := by
  unfold zX8_pack_s50_8b
  refine dA_if (fun _ => ?_) (fun _ => ?_)
  · refine dA_L (fun v1 e_1 => ?_)
    refine dA_L (fun v2 e_2 => ?_)
    exact dA_some h
  · refine dA_G (fun _ => ?_)
    refine dA_L (fun v4 e_3 => ?_)
    refine dA_L (fun v5 e_4 => ?_)
    refine dA_G (fun _ => ?_)
    refine dA_L (fun v7 e_5 => ?_)
    exact hk8 q (v5 ||| (Int32.toInt64 v7) : Int64) (x3 + 1) h

theorem lo_zX8_pack_s50_8 (f g : Nat → Int64) (n : Nat) (q : dK) (x1 : Int64) (x3 : Int32) (h : Lo f g q) : dAll (zX8_pack_s50_8 n q x1 x3) (fun o => Lo f g o.2) := by
  unfold zX8_pack_s50_8
  exact dA_fix (fun (a : dK × Int64 × Int32) => Lo f g a.1) (fun k hk a ha => lo_zX8_pack_s50_8b f g  _ (fun q x1 x3 hq => hk (q, x1, x3) hq) a.1 a.2.1 a.2.2 ha) n _ h

theorem lo_zX8_pack_s50 (f g : Nat → Int64) (q : dK) (h : Lo f g q) : dAll (zX8_pack_s50 q) (fun o => Lo f g o.2) := by
  unfold zX8_pack_s50
  exact lo_zX8_pack_s50_8 f g dF q (Int32.toInt64 (q.1 50 2)) 0 h

theorem lo_zX6_copyFrom_s1_s49_94b (f g : Nat → Int64) (k94 : dK → Int32 → Option (dK)) (hk94 : ∀ (y0 : dK) (y1 : Int32), Lo f g y0 → dAll (k94 y0 y1) (fun o => Lo f g o)) (q : dK) (x2 : Int32) (h : Lo f g q) : dAll (zX6_copyFrom_s1_s49_94b k94 q x2) (fun o => Lo f g o) := by
  unfold zX6_copyFrom_s1_s49_94b
  refine dA_if (fun _ => ?_) (fun _ => ?_)
  · refine dA_L (fun q1 e_1 => ?_)
    have hq1 : Lo f g q1 := by rw [e_1]; exact h
    exact dA_some hq1
  · refine dA_G (fun _ => ?_)
    refine dA_L (fun v3 e_2 => ?_)
    refine dA_G (fun _ => ?_)
    refine dA_if (fun _ => ?_) (fun _ => ?_)
    · refine dA_L (fun q6 e_3 => ?_)
      have hq6 : Lo f g q6 := by rw [e_3]; exact h
      exact hk94 q6 (x2 + 1) hq6
    · refine dA_G (fun _ => ?_)
      refine dA_L (fun q8 e_4 => ?_)
      have hq8 : Lo f g q8 := by rw [e_4]; exact h
      exact hk94 q8 (x2 + 1) hq8

theorem lo_zX6_copyFrom_s1_s49_94 (f g : Nat → Int64) (n : Nat) (q : dK) (x2 : Int32) (h : Lo f g q) : dAll (zX6_copyFrom_s1_s49_94 n q x2) (fun o => Lo f g o) := by
  unfold zX6_copyFrom_s1_s49_94
  exact dA_fix (fun (a : dK × Int32) => Lo f g a.1) (fun k hk a ha => lo_zX6_copyFrom_s1_s49_94b f g  _ (fun q x2 hq => hk (q, x2) hq) a.1 a.2 ha) n _ h

theorem lo_zX6_copyFrom_s1_s49_48b (f g : Nat → Int64) (k48 : dK → Int32 → Option (dK)) (hk48 : ∀ (y0 : dK) (y1 : Int32), Lo f g y0 → dAll (k48 y0 y1) (fun o => Lo f g o)) (q : dK) (x2 : Int32) (h : Lo f g q) : dAll (zX6_copyFrom_s1_s49_48b k48 q x2) (fun o => Lo f g o) := by
  unfold zX6_copyFrom_s1_s49_48b
  refine dA_if (fun _ => ?_) (fun _ => ?_)
  · refine dA_L (fun q1 e_1 => ?_)
    have hq1 : Lo f g q1 := by rw [e_1]; exact h
    exact lo_zX6_copyFrom_s1_s49_94 f g dF q1 0 hq1
  · refine dA_G (fun _ => ?_)
    refine dA_L (fun v3 e_2 => ?_)
    refine dA_G (fun _ => ?_)
    refine dA_L (fun q5 e_3 => ?_)
    have hq5 : Lo f g q5 := by rw [e_3]; exact h
    refine dA_G (fun _ => ?_)
    refine dA_L (fun v7 e_4 => ?_)
    refine dA_G (fun _ => ?_)
    refine dA_L (fun q9 e_5 => ?_)
    have hq9 : Lo f g q9 := by rw [e_5]; exact hq5
    exact hk48 q9 (x2 + 1) hq9

theorem lo_zX6_copyFrom_s1_s49_48 (f g : Nat → Int64) (n : Nat) (q : dK) (x2 : Int32) (h : Lo f g q) : dAll (zX6_copyFrom_s1_s49_48 n q x2) (fun o => Lo f g o) := by
  unfold zX6_copyFrom_s1_s49_48
  exact dA_fix (fun (a : dK × Int32) => Lo f g a.1) (fun k hk a ha => lo_zX6_copyFrom_s1_s49_48b f g  _ (fun q x2 hq => hk (q, x2) hq) a.1 a.2 ha) n _ h

theorem lo_zX6_copyFrom_s1_s49 (f g : Nat → Int64) (q : dK) (h : Lo f g q) : dAll (zX6_copyFrom_s1_s49 q) (fun o => Lo f g o) := by
  unfold zX6_copyFrom_s1_s49
  refine dA_B (lo_zX8_pack_s50 f g q h) (fun r1 q3 hq3 => ?_)
  refine dA_V (lo_zX8_unpack_s2 f g q3 r1 hq3) (fun q6 hq6 => ?_)
  refine dA_L (fun q7 e_1 => ?_)
  have hq7 : Lo f g q7 := by rw [e_1]; exact hq6
  refine dA_L (fun q8 e_2 => ?_)
  have hq8 : Lo f g q8 := by rw [e_2]; exact hq7
  refine dA_L (fun q9 e_3 => ?_)
  have hq9 : Lo f g q9 := by rw [e_3]; exact hq8
  refine dA_L (fun q10 e_4 => ?_)
  have hq10 : Lo f g q10 := by rw [e_4]; exact hq9
  exact lo_zX6_copyFrom_s1_s49_48 f g dF q10 0 hq10

theorem lo_zX8_pack_s57_8b (f g : Nat → Int64) (k8 : dK → Int64 → Int32 → Option (Int64 × dK)) (hk8 : ∀ (y0 : dK) (y1 : Int64) (y2 : Int32), Lo f g y0 → dAll (k8 y0 y1 y2) (fun o => Lo f g o.2)) (q : dK) (x1 : Int64) (x3 : Int32) (h : Lo f g q) : dAll (zX8_pack_s57_8b k8 q x1 x3) (fun o => Lo f g o.2) := by
  unfold zX8_pack_s57_8b
  refine dA_if (fun _ => ?_) (fun _ => ?_)
  · refine dA_L (fun v1 e_1 => ?_)
    refine dA_L (fun v2 e_2 => ?_)
    exact dA_some h
  · refine dA_G (fun _ => ?_)
    refine dA_L (fun v4 e_3 => ?_)
    refine dA_L (fun v5 e_4 => ?_)
    refine dA_G (fun _ => ?_)
    refine dA_L (fun v7 e_5 => ?_)
    exact hk8 q (v5 ||| (Int32.toInt64 v7) : Int64) (x3 + 1) h

theorem lo_zX8_pack_s57_8 (f g : Nat → Int64) (n : Nat) (q : dK) (x1 : Int64) (x3 : Int32) (h : Lo f g q) : dAll (zX8_pack_s57_8 n q x1 x3) (fun o => Lo f g o.2) := by
  unfold zX8_pack_s57_8
  exact dA_fix (fun (a : dK × Int64 × Int32) => Lo f g a.1) (fun k hk a ha => lo_zX8_pack_s57_8b f g  _ (fun q x1 x3 hq => hk (q, x1, x3) hq) a.1 a.2.1 a.2.2 ha) n _ h

theorem lo_zX8_pack_s57 (f g : Nat → Int64) (q : dK) (h : Lo f g q) : dAll (zX8_pack_s57 q) (fun o => Lo f g o.2) := by
  unfold zX8_pack_s57
  exact lo_zX8_pack_s57_8 f g dF q (Int32.toInt64 (q.1 57 2)) 0 h

theorem lo_zX6_copyFrom_s1_s56_94b (f g : Nat → Int64) (k94 : dK → Int32 → Option (dK)) (hk94 : ∀ (y0 : dK) (y1 : Int32), Lo f g y0 → dAll (k94 y0 y1) (fun o => Lo f g o)) (q : dK) (x2 : Int32) (h : Lo f g q) : dAll (zX6_copyFrom_s1_s56_94b k94 q x2) (fun o => Lo f g o) := by
  unfold zX6_copyFrom_s1_s56_94b
  refine dA_if (fun _ => ?_) (fun _ => ?_)
  · refine dA_L (fun q1 e_1 => ?_)
    have hq1 : Lo f g q1 := by rw [e_1]; exact h
    exact dA_some hq1
  · refine dA_G (fun _ => ?_)
    refine dA_L (fun v3 e_2 => ?_)
    refine dA_G (fun _ => ?_)
    refine dA_if (fun _ => ?_) (fun _ => ?_)
    · refine dA_L (fun q6 e_3 => ?_)
      have hq6 : Lo f g q6 := by rw [e_3]; exact h
      exact hk94 q6 (x2 + 1) hq6
    · refine dA_G (fun _ => ?_)
      refine dA_L (fun q8 e_4 => ?_)
      have hq8 : Lo f g q8 := by rw [e_4]; exact h
      exact hk94 q8 (x2 + 1) hq8

theorem lo_zX6_copyFrom_s1_s56_94 (f g : Nat → Int64) (n : Nat) (q : dK) (x2 : Int32) (h : Lo f g q) : dAll (zX6_copyFrom_s1_s56_94 n q x2) (fun o => Lo f g o) := by
  unfold zX6_copyFrom_s1_s56_94
  exact dA_fix (fun (a : dK × Int32) => Lo f g a.1) (fun k hk a ha => lo_zX6_copyFrom_s1_s56_94b f g  _ (fun q x2 hq => hk (q, x2) hq) a.1 a.2 ha) n _ h

theorem lo_zX6_copyFrom_s1_s56_48b (f g : Nat → Int64) (k48 : dK → Int32 → Option (dK)) (hk48 : ∀ (y0 : dK) (y1 : Int32), Lo f g y0 → dAll (k48 y0 y1) (fun o => Lo f g o)) (q : dK) (x2 : Int32) (h : Lo f g q) : dAll (zX6_copyFrom_s1_s56_48b k48 q x2) (fun o => Lo f g o) := by
  unfold zX6_copyFrom_s1_s56_48b
  refine dA_if (fun _ => ?_) (fun _ => ?_)
  · refine dA_L (fun q1 e_1 => ?_)
    have hq1 : Lo f g q1 := by rw [e_1]; exact h
    exact lo_zX6_copyFrom_s1_s56_94 f g dF q1 0 hq1
  · refine dA_G (fun _ => ?_)
    refine dA_L (fun v3 e_2 => ?_)
    refine dA_G (fun _ => ?_)
    refine dA_L (fun q5 e_3 => ?_)
    have hq5 : Lo f g q5 := by rw [e_3]; exact h
    refine dA_G (fun _ => ?_)
    refine dA_L (fun v7 e_4 => ?_)
    refine dA_G (fun _ => ?_)
    refine dA_L (fun q9 e_5 => ?_)
    have hq9 : Lo f g q9 := by rw [e_5]; exact hq5
    exact hk48 q9 (x2 + 1) hq9

theorem lo_zX6_copyFrom_s1_s56_48 (f g : Nat → Int64) (n : Nat) (q : dK) (x2 : Int32) (h : Lo f g q) : dAll (zX6_copyFrom_s1_s56_48 n q x2) (fun o => Lo f g o) := by
  unfold zX6_copyFrom_s1_s56_48
  exact dA_fix (fun (a : dK × Int32) => Lo f g a.1) (fun k hk a ha => lo_zX6_copyFrom_s1_s56_48b f g  _ (fun q x2 hq => hk (q, x2) hq) a.1 a.2 ha) n _ h

theorem lo_zX6_copyFrom_s1_s56 (f g : Nat → Int64) (q : dK) (h : Lo f g q) : dAll (zX6_copyFrom_s1_s56 q) (fun o => Lo f g o) := by
  unfold zX6_copyFrom_s1_s56
  refine dA_B (lo_zX8_pack_s57 f g q h) (fun r1 q3 hq3 => ?_)
  refine dA_V (lo_zX8_unpack_s2 f g q3 r1 hq3) (fun q6 hq6 => ?_)
  refine dA_L (fun q7 e_1 => ?_)
  have hq7 : Lo f g q7 := by rw [e_1]; exact hq6
  refine dA_L (fun q8 e_2 => ?_)
  have hq8 : Lo f g q8 := by rw [e_2]; exact hq7
  refine dA_L (fun q9 e_3 => ?_)
  have hq9 : Lo f g q9 := by rw [e_3]; exact hq8
  refine dA_L (fun q10 e_4 => ?_)
  have hq10 : Lo f g q10 := by rw [e_4]; exact hq9
  exact lo_zX6_copyFrom_s1_s56_48 f g dF q10 0 hq10

theorem lo_zX9_back_s0 (f g : Nat → Int64) (q : dK) (p1 : Int32) (h : Lo f g q) : dAll (zX9_back_s0 q p1) (fun o => Lo f g o.2) := by
  unfold zX9_back_s0
  refine dA_V dA_tr (fun r1 _ => ?_)
  refine dA_if (fun _ => ?_) (fun _ => ?_)
  · refine dA_B (lo_zX9_refuse_s0 f g q (-1) h) (fun r29 q31 hq31 => ?_)
    exact dA_some hq31
  · refine dA_G (fun _ => ?_)
    refine dA_L (fun v4 e_1 => ?_)
    refine dA_if (fun _ => ?_) (fun _ => ?_)
    · refine dA_B (lo_zX9_refuse_s0 f g q (-2) h) (fun r26 q28 hq28 => ?_)
      exact dA_some hq28
    · refine dA_G (fun _ => ?_)
      refine dA_if (fun _ => ?_) (fun _ => ?_)
      · refine dA_V (lo_zX6_copyFrom_s1_s49 f g q h) (fun q9 hq9 => ?_)
        refine dA_V (lo_zX0_clear_s10 f g q9 hq9) (fun q12 hq12 => ?_)
        refine dA_B (lo_zX9_accept_s0 f g q12 0 hq12) (fun r13 q15 hq15 => ?_)
        exact dA_some hq15
      · refine dA_G (fun _ => ?_)
        refine dA_V (lo_zX6_copyFrom_s1_s56 f g q h) (fun q19 hq19 => ?_)
        refine dA_V (lo_zX0_clear_s10 f g q19 hq19) (fun q22 hq22 => ?_)
        refine dA_B (lo_zX9_accept_s0 f g q22 0 hq22) (fun r23 q25 hq25 => ?_)
        exact dA_some hq25

theorem lo_zX8_onHeads_s2_4b (f g : Nat → Int64) (k4 : dK → Int32 → Int32 → Option (Int32 × dK)) (hk4 : ∀ (y0 : dK) (y1 : Int32) (y2 : Int32), Lo f g y0 → dAll (k4 y0 y1 y2) (fun o => Lo f g o.2)) (q : dK) (x1 : Int32) (x2 : Int32) (h : Lo f g q) : dAll (zX8_onHeads_s2_4b k4 q x1 x2) (fun o => Lo f g o.2) := by
  unfold zX8_onHeads_s2_4b
  refine dA_if (fun _ => ?_) (fun _ => ?_)
  · exact dA_some h
  · refine dA_G (fun _ => ?_)
    refine dA_L (fun v2 e_1 => ?_)
    exact hk4 q (x1 + v2) (x2 + 1) h

theorem lo_zX8_onHeads_s2_4 (f g : Nat → Int64) (n : Nat) (q : dK) (x1 : Int32) (x2 : Int32) (h : Lo f g q) : dAll (zX8_onHeads_s2_4 n q x1 x2) (fun o => Lo f g o.2) := by
  unfold zX8_onHeads_s2_4
  exact dA_fix (fun (a : dK × Int32 × Int32) => Lo f g a.1) (fun k hk a ha => lo_zX8_onHeads_s2_4b f g  _ (fun q x1 x2 hq => hk (q, x1, x2) hq) a.1 a.2.1 a.2.2 ha) n _ h

theorem lo_zX8_onHeads_s2 (f g : Nat → Int64) (q : dK) (h : Lo f g q) : dAll (zX8_onHeads_s2 q) (fun o => Lo f g o.2) := by
  unfold zX8_onHeads_s2
  exact lo_zX8_onHeads_s2_4 f g dF q 0 0 h

theorem lo_zX9_count_s0 (f g : Nat → Int64) (q : dK) (p1 : Int32) (h : Lo f g q) : dAll (zX9_count_s0 q p1) (fun o => Lo f g o.2) := by
  unfold zX9_count_s0
  refine dA_if (fun _ => ?_) (fun _ => ?_)
  · exact dA_some h
  · refine dA_if (fun _ => ?_) (fun _ => ?_)
    · refine dA_B (lo_zX8_onHeads_s2 f g q h) (fun r3 q5 hq5 => ?_)
      exact dA_some hq5
    · refine dA_if (fun _ => ?_) (fun _ => ?_)
      · exact dA_some h
      · refine dA_if (fun _ => ?_) (fun _ => ?_)
        · exact dA_some h
        · refine dA_if (fun _ => ?_) (fun _ => ?_)
          · exact dA_some h
          · refine dA_if (fun _ => ?_) (fun _ => ?_)
            · exact dA_some h
            · refine dA_if (fun _ => ?_) (fun _ => ?_)
              · exact dA_some h
              · refine dA_if (fun _ => ?_) (fun _ => ?_)
                · exact dA_some h
                · refine dA_if (fun _ => ?_) (fun _ => ?_)
                  · exact dA_some h
                  · refine dA_if (fun _ => ?_) (fun _ => ?_)
                    · exact dA_some h
                    · refine dA_if (fun _ => ?_) (fun _ => ?_)
                      · exact dA_some h
                      · refine dA_if (fun _ => ?_) (fun _ => ?_)
                        · exact dA_some h
                        · refine dA_if (fun _ => ?_) (fun _ => ?_)
                          · exact dA_some h
                          · refine dA_if (fun _ => ?_) (fun _ => ?_)
                            · refine dA_B (lo_zX6_term_s1 f g q (p1 - 13 : Int32) h) (fun r18 q20 hq20 => ?_)
                              exact dA_some hq20
                            · refine dA_if (fun _ => ?_) (fun _ => ?_)
                              · refine dA_B (lo_zX6_term_s1 f g q (p1 - 13 : Int32) h) (fun r22 q24 hq24 => ?_)
                                exact dA_some hq24
                              · refine dA_if (fun _ => ?_) (fun _ => ?_)
                                · refine dA_B (lo_zX6_term_s1 f g q (p1 - 13 : Int32) h) (fun r26 q28 hq28 => ?_)
                                  exact dA_some hq28
                                · refine dA_if (fun _ => ?_) (fun _ => ?_)
                                  · refine dA_B (lo_zX6_term_s1 f g q (p1 - 13 : Int32) h) (fun r30 q32 hq32 => ?_)
                                    exact dA_some hq32
                                  · refine dA_if (fun _ => ?_) (fun _ => ?_)
                                    · refine dA_B (lo_zX8_rises_s2 f g q ((1 <<< ((q.1 2 2 : Int32) &&& 31) : Int32) - 1 : Int32) (q.1 1 3) h) (fun r34 q36 hq36 => ?_)
                                      refine dA_V dA_tr (fun r37 _ => ?_)
                                      exact dA_some hq36
                                    · exact dA_some h

theorem lo_zX9_status_s0 (f g : Nat → Int64) (q : dK) (h : Lo f g q) : dAll (zX9_status_s0 q) (fun o => Lo f g o.2) := by
  unfold zX9_status_s0
  exact dA_some h
