/-- what the tower, what can be undone, what lies aside are, stays -/
def Fm (w q : dS) : Prop := q.1 2 = w.1 2 ∧ q.1 14 = w.1 14 ∧ q.1 15 = w.1 15 ∧ q.1 5 = w.1 5 ∧ q.1 0 32 = w.1 0 32
theorem fm_r {w q : dS} {j k : Nat} {v : Int32} (hj : ¬ j = 2 ∧ ¬ j = 14 ∧ ¬ j = 15 ∧ ¬ j = 5 ∧ ¬ j = 0) (h : Fm w q) : Fm w (dui q j k v) :=
  ⟨(dui_o (fun z => hj.1 z.symm)).trans h.1, (dui_o (fun z => hj.2.1 z.symm)).trans h.2.1, (dui_o (fun z => hj.2.2.1 z.symm)).trans h.2.2.1, (dui_o (fun z => hj.2.2.2.1 z.symm)).trans h.2.2.2.1, by rw [dui_o (fun z => hj.2.2.2.2 z.symm)]; exact h.2.2.2.2⟩
theorem fm_0 {w q : dS} {k : Nat} {v : Int32} (hk : ¬ k = 32) (h : Fm w q) : Fm w (dui q 0 k v) :=
  ⟨(dui_o (by decide)).trans h.1, (dui_o (by decide)).trans h.2.1, (dui_o (by decide)).trans h.2.2.1, (dui_o (by decide)).trans h.2.2.2.1, by rw [dui_n (fun z => hk z.symm)]; exact h.2.2.2.2⟩
theorem fm_rf {w : dS} : Fm w w := ⟨rfl, rfl, rfl, rfl, rfl⟩

theorem lm_zX10_refuses (w : dS) (q : dS) (p1 : Int32) (h : Fm w q) : dAll (zX10_refuses q p1) (fun o => Fm w o.2) := by
  unfold zX10_refuses
  refine dA_L (fun q1 e_1 => ?_)
  have hq1 : Fm w q1 := by rw [e_1]; exact (fm_0 (by decide) h)
  refine dA_G (fun _ => ?_)
  refine dA_L (fun v3 e_2 => ?_)
  refine dA_G (fun _ => ?_)
  refine dA_L (fun q5 e_3 => ?_)
  have hq5 : Fm w q5 := by rw [e_3]; exact (fm_r (by decide) hq1)
  exact dA_some hq5

theorem lm_zX10_good (w : dS) (q : dS) (p1 : Int32) (h : Fm w q) : dAll (zX10_good q p1) (fun o => Fm w o.2) := by
  unfold zX10_good
  refine dA_L (fun q1 e_1 => ?_)
  have hq1 : Fm w q1 := by rw [e_1]; exact (fm_0 (by decide) h)
  exact dA_some hq1

theorem lm_zX10_image_17b (w : dS) (k17 : dS → Int32 → Int32 → Option (Int32 × dS)) (hk17 : ∀ (y0 : dS) (y1 : Int32) (y2 : Int32), Fm w y0 → dAll (k17 y0 y1 y2) (fun o => Fm w o.2)) (q : dS) (x1 : Int32) (x2 : Int32) (h : Fm w q) : dAll (zX10_image_17b k17 q x1 x2) (fun o => Fm w o.2) := by
  unfold zX10_image_17b
  refine dA_if (fun _ => ?_) (fun _ => ?_)
  · refine dA_G (fun _ => ?_)
    refine dA_L (fun q2 e_1 => ?_)
    have hq2 : Fm w q2 := by rw [e_1]; exact (fm_r (by decide) h)
    refine dA_B (lm_zX10_good w q2 0 hq2) (fun r3 q5 hq5 => ?_)
    exact dA_some hq5
  · refine dA_G (fun _ => ?_)
    refine dA_L (fun v7 e_2 => ?_)
    refine dA_G (fun _ => ?_)
    refine dA_L (fun q9 e_3 => ?_)
    have hq9 : Fm w q9 := by rw [e_3]; exact (fm_r (by decide) h)
    exact hk17 q9 x1 (x2 + 1) hq9

theorem lm_zX10_image_17 (w : dS) (n : Nat) (q : dS) (x1 : Int32) (x2 : Int32) (h : Fm w q) : dAll (zX10_image_17 n q x1 x2) (fun o => Fm w o.2) := by
  unfold zX10_image_17
  exact dA_fix (fun (a : dS × Int32 × Int32) => Fm w a.1) (fun k hk a ha => lm_zX10_image_17b w  _ (fun q x1 x2 hq => hk (q, x1, x2) hq) a.1 a.2.1 a.2.2 ha) n _ h

theorem lm_zX10_image (w : dS) (q : dS) (p1 : Int32) (h : Fm w q) : dAll (zX10_image q p1) (fun o => Fm w o.2) := by
  unfold zX10_image
  refine dA_V dA_tr (fun r1 _ => ?_)
  refine dA_if (fun _ => ?_) (fun _ => ?_)
  · refine dA_B (lm_zX10_refuses w q (-1) h) (fun r3 q5 hq5 => ?_)
    exact dA_some hq5
  · exact lm_zX10_image_17 w dF q p1 0 h

theorem lm_zX10_size (w : dS) (q : dS) (h : Fm w q) : dAll (zX10_size q) (fun o => Fm w o.2) := by
  unfold zX10_size
  exact dA_some h

theorem lm_zX10_isPlace (w : dS) (q : dS) (p1 : Int32) (h : Fm w q) : dAll (zX10_isPlace q p1) (fun o => Fm w o.2) := by
  unfold zX10_isPlace
  refine dA_B (lm_zX10_size w q h) (fun r1 q3 hq3 => ?_)
  refine dA_V dA_tr (fun r4 _ => ?_)
  refine dA_G (fun _ => ?_)
  exact dA_some hq3

theorem lm_zX10_placeOf_29 (w : dS) (k4 : dS → Int32 → Int32 → Int32 → Option (Int32 × dS)) (hk4 : ∀ (y0 : dS) (y1 : Int32) (y2 : Int32) (y3 : Int32), Fm w y0 → dAll (k4 y0 y1 y2 y3) (fun o => Fm w o.2)) (q : dS) (x1 : Int32) (x3 : Int32) (y0 : Int32) (h : Fm w q) : dAll (zX10_placeOf_29 k4 q x1 x3 y0) (fun o => Fm w o.2) := by
  unfold zX10_placeOf_29
  exact hk4 q x1 y0 (x3 + 1) h

theorem lm_zX10_placeOf_4b (w : dS) (k4 : dS → Int32 → Int32 → Int32 → Option (Int32 × dS)) (hk4 : ∀ (y0 : dS) (y1 : Int32) (y2 : Int32) (y3 : Int32), Fm w y0 → dAll (k4 y0 y1 y2 y3) (fun o => Fm w o.2)) (q : dS) (x1 : Int32) (x2 : Int32) (x3 : Int32) (h : Fm w q) : dAll (zX10_placeOf_4b k4 q x1 x2 x3) (fun o => Fm w o.2) := by
  unfold zX10_placeOf_4b
  refine dA_B (lm_zX10_size w q h) (fun r1 q3 hq3 => ?_)
  refine dA_if (fun _ => ?_) (fun _ => ?_)
  · exact dA_some hq3
  · refine dA_G (fun _ => ?_)
    refine dA_L (fun v5 e_1 => ?_)
    refine dA_if (fun _ => ?_) (fun _ => ?_)
    · exact lm_zX10_placeOf_29 w k4 hk4 q3 x1 x3 x3 hq3
    · exact lm_zX10_placeOf_29 w k4 hk4 q3 x1 x3 x2 hq3

theorem lm_zX10_placeOf_4 (w : dS) (n : Nat) (q : dS) (x1 : Int32) (x2 : Int32) (x3 : Int32) (h : Fm w q) : dAll (zX10_placeOf_4 n q x1 x2 x3) (fun o => Fm w o.2) := by
  unfold zX10_placeOf_4
  exact dA_fix (fun (a : dS × Int32 × Int32 × Int32) => Fm w a.1) (fun k hk a ha => lm_zX10_placeOf_4b w  _ (fun q x1 x2 x3 hq => hk (q, x1, x2, x3) hq) a.1 a.2.1 a.2.2.1 a.2.2.2 ha) n _ h

theorem lm_zX10_placeOf (w : dS) (q : dS) (p1 : Int32) (h : Fm w q) : dAll (zX10_placeOf q p1) (fun o => Fm w o.2) := by
  unfold zX10_placeOf
  exact lm_zX10_placeOf_4 w dF q p1 (-1) 0 h

theorem lm_zX10_floor_14 (w : dS) (q : dS) (h : Fm w q) : dAll (zX10_floor_14 q) (fun o => Fm w o.2) := by
  unfold zX10_floor_14
  refine dA_B (lm_zX10_refuses w q (-1) h) (fun r1 q3 hq3 => ?_)
  exact dA_some hq3

theorem lm_zX10_setsAsked (w : dS) (q : dS) (p1 : Int32) (p2 : Int32) (p3 : Int32) (h : Fm w q) : dAll (zX10_setsAsked q p1 p2 p3) (fun o => Fm w o) := by
  unfold zX10_setsAsked
  refine dA_B (lm_zX10_size w q h) (fun r1 q3 hq3 => ?_)
  refine dA_L (fun q4 e_1 => ?_)
  have hq4 : Fm w q4 := by rw [e_1]; exact (fm_r (by decide) hq3)
  refine dA_L (fun q5 e_2 => ?_)
  have hq5 : Fm w q5 := by rw [e_2]; exact (fm_r (by decide) hq4)
  refine dA_L (fun q6 e_3 => ?_)
  have hq6 : Fm w q6 := by rw [e_3]; exact (fm_r (by decide) hq5)
  refine dA_L (fun q7 e_4 => ?_)
  have hq7 : Fm w q7 := by rw [e_4]; exact (fm_r (by decide) hq6)
  refine dA_L (fun q8 e_5 => ?_)
  have hq8 : Fm w q8 := by rw [e_5]; exact (fm_r (by decide) hq7)
  refine dA_L (fun q9 e_6 => ?_)
  have hq9 : Fm w q9 := by rw [e_6]; exact (fm_r (by decide) hq8)
  exact dA_some hq9

theorem lm_zX10_setsFloor (w : dS) (q : dS) (p1 : Int32) (h : Fm w q) : dAll (zX10_setsFloor q p1) (fun o => Fm w o) := by
  unfold zX10_setsFloor
  refine dA_L (fun q1 e_1 => ?_)
  have hq1 : Fm w q1 := by rw [e_1]; exact (fm_r (by decide) h)
  refine dA_L (fun q2 e_2 => ?_)
  have hq2 : Fm w q2 := by rw [e_2]; exact (fm_r (by decide) hq1)
  refine dA_L (fun q3 e_3 => ?_)
  have hq3 : Fm w q3 := by rw [e_3]; exact (fm_r (by decide) hq2)
  refine dA_G (fun _ => ?_)
  refine dA_L (fun v5 e_4 => ?_)
  refine dA_G (fun _ => ?_)
  refine dA_L (fun v7 e_5 => ?_)
  refine dA_V (lm_zX10_setsAsked w q3 v5 p1 v7 hq3) (fun q10 hq10 => ?_)
  exact dA_some hq10

theorem lm_zX10_codeAt_21 (w : dS) (q : dS) (y0 : Int32) (h : Fm w q) : dAll (zX10_codeAt_21 q y0) (fun o => Fm w o.2) := by
  unfold zX10_codeAt_21
  exact dA_some h

theorem lm_zX10_codeAt (w : dS) (q : dS) (p1 : Int32) (h : Fm w q) : dAll (zX10_codeAt q p1) (fun o => Fm w o.2) := by
  unfold zX10_codeAt
  refine dA_if (fun _ => ?_) (fun _ => ?_)
  · exact lm_zX10_codeAt_21 w q 0 h
  · refine dA_G (fun _ => ?_)
    refine dA_L (fun v2 e_1 => ?_)
    exact lm_zX10_codeAt_21 w q v2 h

theorem lm_zX10_passes0_32 (w : dS) (q : dS) (x2 : Int32) (h : Fm w q) : dAll (zX10_passes0_32 q x2) (fun o => Fm w o.2) := by
  unfold zX10_passes0_32
  refine dA_G (fun _ => ?_)
  exact dA_some h

theorem lm_zX10_passes0_17 (w : dS) (q : dS) (y0 : Int32) (h : Fm w q) : dAll (zX10_passes0_17 q y0) (fun o => Fm w o.2) := by
  unfold zX10_passes0_17
  refine dA_if (fun _ => ?_) (fun _ => ?_)
  · exact lm_zX10_passes0_32 w q y0 h
  · refine dA_L (fun q1 e_1 => ?_)
    have hq1 : Fm w q1 := by rw [e_1]; exact (fm_0 (by decide) h)
    exact lm_zX10_passes0_32 w q1 y0 hq1

theorem lm_zX10_passes0 (w : dS) (q : dS) (p1 : Int32) (h : Fm w q) : dAll (zX10_passes0 q p1) (fun o => Fm w o.2) := by
  unfold zX10_passes0
  refine dA_B (lm_zX10_codeAt w q (q.1 0 22) h) (fun r1 q3 hq3 => ?_)
  refine dA_if (fun _ => ?_) (fun _ => ?_)
  · exact lm_zX10_passes0_17 w q3 1 hq3
  · exact lm_zX10_passes0_17 w q3 0 hq3

theorem lm_zX10_lessThan_30 (w : dS) (k4 : dS → Int32 → Int32 → Int32 → Option (Int32 × dS)) (hk4 : ∀ (y0 : dS) (y1 : Int32) (y2 : Int32) (y3 : Int32), Fm w y0 → dAll (k4 y0 y1 y2 y3) (fun o => Fm w o.2)) (q : dS) (x1 : Int32) (x3 : Int32) (y0 : Int32) (y1 : Int32) (h : Fm w q) : dAll (zX10_lessThan_30 k4 q x1 x3 y0 y1) (fun o => Fm w o.2) := by
  unfold zX10_lessThan_30
  exact hk4 q x1 (y1 + y0) (x3 + 1) h

theorem lm_zX10_lessThan_4b (w : dS) (k4 : dS → Int32 → Int32 → Int32 → Option (Int32 × dS)) (hk4 : ∀ (y0 : dS) (y1 : Int32) (y2 : Int32) (y3 : Int32), Fm w y0 → dAll (k4 y0 y1 y2 y3) (fun o => Fm w o.2)) (q : dS) (x1 : Int32) (x2 : Int32) (x3 : Int32) (h : Fm w q) : dAll (zX10_lessThan_4b k4 q x1 x2 x3) (fun o => Fm w o.2) := by
  unfold zX10_lessThan_4b
  refine dA_B (lm_zX10_size w q h) (fun r1 q3 hq3 => ?_)
  refine dA_if (fun _ => ?_) (fun _ => ?_)
  · exact dA_some hq3
  · refine dA_G (fun _ => ?_)
    refine dA_L (fun v5 e_1 => ?_)
    refine dA_if (fun _ => ?_) (fun _ => ?_)
    · exact lm_zX10_lessThan_30 w k4 hk4 q3 x1 x3 0 x2 hq3
    · exact lm_zX10_lessThan_30 w k4 hk4 q3 x1 x3 1 x2 hq3

theorem lm_zX10_lessThan_4 (w : dS) (n : Nat) (q : dS) (x1 : Int32) (x2 : Int32) (x3 : Int32) (h : Fm w q) : dAll (zX10_lessThan_4 n q x1 x2 x3) (fun o => Fm w o.2) := by
  unfold zX10_lessThan_4
  exact dA_fix (fun (a : dS × Int32 × Int32 × Int32) => Fm w a.1) (fun k hk a ha => lm_zX10_lessThan_4b w  _ (fun q x1 x2 x3 hq => hk (q, x1, x2, x3) hq) a.1 a.2.1 a.2.2.1 a.2.2.2 ha) n _ h

theorem lm_zX10_lessThan (w : dS) (q : dS) (p1 : Int32) (h : Fm w q) : dAll (zX10_lessThan q p1) (fun o => Fm w o.2) := by
  unfold zX10_lessThan
  exact lm_zX10_lessThan_4 w dF q p1 0 0 h

theorem lm_zX10_gaps_95 (w : dS) (k41 : dS → Int32 → Int32 → Option (Int32 × dS)) (hk41 : ∀ (y0 : dS) (y1 : Int32) (y2 : Int32), Fm w y0 → dAll (k41 y0 y1 y2) (fun o => Fm w o.2)) (q : dS) (x2 : Int32) (y0 : Int32) (y1 : Int32) (h : Fm w q) : dAll (zX10_gaps_95 k41 q x2 y0 y1) (fun o => Fm w o.2) := by
  unfold zX10_gaps_95
  exact hk41 q (y1 + y0) (x2 + 1) h

theorem lm_zX10_gaps_90 (w : dS) (k41 : dS → Int32 → Int32 → Option (Int32 × dS)) (hk41 : ∀ (y0 : dS) (y1 : Int32) (y2 : Int32), Fm w y0 → dAll (k41 y0 y1 y2) (fun o => Fm w o.2)) (q : dS) (x2 : Int32) (y0 : Int32) (h : Fm w q) : dAll (zX10_gaps_90 k41 q x2 y0) (fun o => Fm w o.2) := by
  unfold zX10_gaps_90
  exact lm_zX10_gaps_95 w k41 hk41 q x2 0 y0 h

theorem lm_zX10_gaps_41b (w : dS) (k41 : dS → Int32 → Int32 → Option (Int32 × dS)) (hk41 : ∀ (y0 : dS) (y1 : Int32) (y2 : Int32), Fm w y0 → dAll (k41 y0 y1 y2) (fun o => Fm w o.2)) (q : dS) (x1 : Int32) (x2 : Int32) (h : Fm w q) : dAll (zX10_gaps_41b k41 q x1 x2) (fun o => Fm w o.2) := by
  unfold zX10_gaps_41b
  refine dA_B (lm_zX10_size w q h) (fun r1 q3 hq3 => ?_)
  refine dA_if (fun _ => ?_) (fun _ => ?_)
  · exact dA_some hq3
  · refine dA_G (fun _ => ?_)
    refine dA_L (fun v5 e_1 => ?_)
    refine dA_B (lm_zX10_lessThan w q3 v5 hq3) (fun r6 q8 hq8 => ?_)
    refine dA_G (fun _ => ?_)
    refine dA_L (fun v10 e_2 => ?_)
    refine dA_B (lm_zX10_lessThan w q8 v10 hq8) (fun r11 q13 hq13 => ?_)
    refine dA_if (fun _ => ?_) (fun _ => ?_)
    · exact lm_zX10_gaps_90 w k41 hk41 q13 x2 x1 hq13
    · refine dA_if (fun _ => ?_) (fun _ => ?_)
      · exact lm_zX10_gaps_90 w k41 hk41 q13 x2 x1 hq13
      · exact lm_zX10_gaps_95 w k41 hk41 q13 x2 1 x1 hq13

theorem lm_zX10_gaps_41 (w : dS) (n : Nat) (q : dS) (x1 : Int32) (x2 : Int32) (h : Fm w q) : dAll (zX10_gaps_41 n q x1 x2) (fun o => Fm w o.2) := by
  unfold zX10_gaps_41
  exact dA_fix (fun (a : dS × Int32 × Int32) => Fm w a.1) (fun k hk a ha => lm_zX10_gaps_41b w  _ (fun q x1 x2 hq => hk (q, x1, x2) hq) a.1 a.2.1 a.2.2 ha) n _ h

theorem lm_zX10_gaps_38 (w : dS) (q : dS) (y0 : Int32) (h : Fm w q) : dAll (zX10_gaps_38 q y0) (fun o => Fm w o.2) := by
  unfold zX10_gaps_38
  exact lm_zX10_gaps_41 w dF q y0 0 h

theorem lm_zX10_gaps_37 (w : dS) (q : dS) (h : Fm w q) : dAll (zX10_gaps_37 q) (fun o => Fm w o.2) := by
  unfold zX10_gaps_37
  exact lm_zX10_gaps_38 w q 0 h

theorem lm_zX10_gaps (w : dS) (q : dS) (h : Fm w q) : dAll (zX10_gaps q) (fun o => Fm w o.2) := by
  unfold zX10_gaps
  refine dA_B (lm_zX10_size w q h) (fun r1 q3 hq3 => ?_)
  refine dA_if (fun _ => ?_) (fun _ => ?_)
  · exact lm_zX10_gaps_37 w q3 hq3
  · refine dA_B (lm_zX10_size w q3 hq3) (fun r4 q6 hq6 => ?_)
    refine dA_G (fun _ => ?_)
    refine dA_L (fun v8 e_1 => ?_)
    refine dA_B (lm_zX10_lessThan w q6 v8 hq6) (fun r9 q11 hq11 => ?_)
    refine dA_B (lm_zX10_size w q11 hq11) (fun r12 q14 hq14 => ?_)
    refine dA_if (fun _ => ?_) (fun _ => ?_)
    · exact lm_zX10_gaps_37 w q14 hq14
    · exact lm_zX10_gaps_38 w q14 1 hq14

theorem lm_zX10_orderValue_86 (w : dS) (q : dS) (y0 : Int32) (h : Fm w q) : dAll (zX10_orderValue_86 q y0) (fun o => Fm w o.2) := by
  unfold zX10_orderValue_86
  exact dA_some h

theorem lm_zX10_orderValue_65 (w : dS) (q : dS) (y0 : Int32) (h : Fm w q) : dAll (zX10_orderValue_65 q y0) (fun o => Fm w o.2) := by
  unfold zX10_orderValue_65
  exact dA_some h

theorem lm_zX10_orderValue (w : dS) (q : dS) (p1 : Int32) (p2 : Int32) (h : Fm w q) : dAll (zX10_orderValue q p1 p2) (fun o => Fm w o.2) := by
  unfold zX10_orderValue
  refine dA_if (fun _ => ?_) (fun _ => ?_)
  · refine dA_B (lm_zX10_isPlace w q p2 h) (fun r2 q4 hq4 => ?_)
    refine dA_if (fun _ => ?_) (fun _ => ?_)
    · exact lm_zX10_orderValue_65 w q4 (-1) hq4
    · refine dA_G (fun _ => ?_)
      refine dA_L (fun v6 e_1 => ?_)
      exact lm_zX10_orderValue_65 w q4 v6 hq4
  · refine dA_if (fun _ => ?_) (fun _ => ?_)
    · exact dA_some h
    · refine dA_if (fun _ => ?_) (fun _ => ?_)
      · exact dA_some h
      · refine dA_if (fun _ => ?_) (fun _ => ?_)
        · exact dA_some h
        · refine dA_if (fun _ => ?_) (fun _ => ?_)
          · exact dA_some h
          · refine dA_if (fun _ => ?_) (fun _ => ?_)
            · refine dA_B (lm_zX10_gaps w q h) (fun r12 q14 hq14 => ?_)
              exact dA_some hq14
            · refine dA_if (fun _ => ?_) (fun _ => ?_)
              · refine dA_B (lm_zX10_isPlace w q p2 h) (fun r16 q18 hq18 => ?_)
                refine dA_if (fun _ => ?_) (fun _ => ?_)
                · exact lm_zX10_orderValue_86 w q18 (-1) hq18
                · refine dA_G (fun _ => ?_)
                  refine dA_L (fun v20 e_2 => ?_)
                  exact lm_zX10_orderValue_86 w q18 v20 hq18
              · refine dA_B (lm_zX10_gaps w q h) (fun r21 q23 hq23 => ?_)
                exact dA_some hq23

theorem lm_zX10_partOf_157 (w : dS) (kU : dS → Int32 → Option (Int64 × dS)) (hkU : ∀ (y0 : dS) (y1 : Int32), Fm w y0 → dAll (kU y0 y1) (fun o => Fm w o.2)) (q : dS) (y0 : Int64) (h : Fm w q) : dAll (zX10_partOf_157 kU q y0) (fun o => Fm w o.2) := by
  unfold zX10_partOf_157
  exact dA_some h

theorem lm_zX10_partOf_105 (w : dS) (kU : dS → Int32 → Option (Int64 × dS)) (hkU : ∀ (y0 : dS) (y1 : Int32), Fm w y0 → dAll (kU y0 y1) (fun o => Fm w o.2)) (q : dS) (h : Fm w q) : dAll (zX10_partOf_105 kU q) (fun o => Fm w o.2) := by
  unfold zX10_partOf_105
  exact dA_some h

theorem lm_zX10_partOf_94 (w : dS) (kU : dS → Int32 → Option (Int64 × dS)) (hkU : ∀ (y0 : dS) (y1 : Int32), Fm w y0 → dAll (kU y0 y1) (fun o => Fm w o.2)) (q : dS) (x1 : Int32) (x2 : Int32) (x3 : Int32) (h : Fm w q) : dAll (zX10_partOf_94 kU q x1 x2 x3) (fun o => Fm w o.2) := by
  unfold zX10_partOf_94
  refine dA_if (fun _ => ?_) (fun _ => ?_)
  · exact lm_zX10_partOf_105 w kU hkU q h
  · refine dA_if (fun _ => ?_) (fun _ => ?_)
    · refine dA_if (fun _ => ?_) (fun _ => ?_)
      · refine dA_G (fun _ => ?_)
        refine dA_L (fun v7 e_1 => ?_)
        exact dA_some h
      · refine dA_if (fun _ => ?_) (fun _ => ?_)
        · refine dA_G (fun _ => ?_)
          refine dA_L (fun v2 e_2 => ?_)
          exact lm_zX10_partOf_157 w kU hkU q (Int32.toInt64 v2) h
        · refine dA_B (lm_zX10_orderValue w q x2 x3 h) (fun r3 q5 hq5 => ?_)
          exact lm_zX10_partOf_157 w kU hkU q5 (Int32.toInt64 r3) hq5
    · exact lm_zX10_partOf_105 w kU hkU q h

theorem lm_zX10_partOf_70 (w : dS) (kU : dS → Int32 → Option (Int64 × dS)) (hkU : ∀ (y0 : dS) (y1 : Int32), Fm w y0 → dAll (kU y0 y1) (fun o => Fm w o.2)) (q : dS) (x1 : Int32) (x2 : Int32) (h : Fm w q) : dAll (zX10_partOf_70 kU q x1 x2) (fun o => Fm w o.2) := by
  unfold zX10_partOf_70
  refine dA_G (fun _ => ?_)
  refine dA_L (fun v2 e_1 => ?_)
  refine dA_L (fun q3 e_2 => ?_)
  have hq3 : Fm w q3 := by rw [e_2]; exact (fm_0 (by decide) h)
  exact lm_zX10_partOf_94 w kU hkU q3 x1 x2 v2 hq3

theorem lm_zX10_partOf (w : dS) (kU : dS → Int32 → Option (Int64 × dS)) (hkU : ∀ (y0 : dS) (y1 : Int32), Fm w y0 → dAll (kU y0 y1) (fun o => Fm w o.2)) (q : dS) (p1 : Int32) (h : Fm w q) : dAll (zX10_partOf kU q p1) (fun o => Fm w o.2) := by
  unfold zX10_partOf
  refine dA_V dA_tr (fun r1 _ => ?_)
  refine dA_B (lm_zX10_passes0 w q r1 h) (fun r3 q5 hq5 => ?_)
  refine dA_if (fun _ => ?_) (fun _ => ?_)
  · refine dA_B (lm_zX10_codeAt w q5 (q5.1 0 22) hq5) (fun r6 q8 hq8 => ?_)
    refine dA_L (fun q9 e_1 => ?_)
    have hq9 : Fm w q9 := by rw [e_1]; exact (fm_0 (by decide) hq8)
    refine dA_if (fun _ => ?_) (fun _ => ?_)
    · exact lm_zX10_partOf_94 w kU hkU q9 p1 r6 0 hq9
    · refine dA_if (fun _ => ?_) (fun _ => ?_)
      · exact lm_zX10_partOf_70 w kU hkU q9 p1 r6 hq9
      · refine dA_if (fun _ => ?_) (fun _ => ?_)
        · exact lm_zX10_partOf_70 w kU hkU q9 p1 r6 hq9
        · exact lm_zX10_partOf_94 w kU hkU q9 p1 r6 0 hq9
  · refine dA_B (hkU q5 p1 hq5) (fun r10 q12 hq12 => ?_)
    refine dA_L (fun q13 e_2 => ?_)
    have hq13 : Fm w q13 := by rw [e_2]; exact (fm_0 (by decide) hq12)
    exact dA_some hq13

theorem lm_zX10_bounded_37 (w : dS) (q : dS) (y0 : Int64) (h : Fm w q) : dAll (zX10_bounded_37 q y0) (fun o => Fm w o.2) := by
  unfold zX10_bounded_37
  exact dA_some h

theorem lm_zX10_bounded_25 (w : dS) (q : dS) (x1 : Int64) (h : Fm w q) : dAll (zX10_bounded_25 q x1) (fun o => Fm w o.2) := by
  unfold zX10_bounded_25
  refine dA_if (fun _ => ?_) (fun _ => ?_)
  · exact lm_zX10_bounded_37 w q x1 h
  · exact lm_zX10_bounded_37 w q 0 h

theorem lm_zX10_bounded_20 (w : dS) (q : dS) (x1 : Int64) (h : Fm w q) : dAll (zX10_bounded_20 q x1) (fun o => Fm w o.2) := by
  unfold zX10_bounded_20
  refine dA_L (fun q1 e_1 => ?_)
  have hq1 : Fm w q1 := by rw [e_1]; exact (fm_0 (by decide) h)
  exact lm_zX10_bounded_25 w q1 x1 hq1

theorem lm_zX10_bounded (w : dS) (q : dS) (p1 : Int64) (p2 : Int32) (h : Fm w q) : dAll (zX10_bounded q p1 p2) (fun o => Fm w o.2) := by
  unfold zX10_bounded
  refine dA_if (fun _ => ?_) (fun _ => ?_)
  · exact lm_zX10_bounded_25 w q p1 h
  · refine dA_if (fun _ => ?_) (fun _ => ?_)
    · exact lm_zX10_bounded_20 w q p1 h
    · refine dA_if (fun _ => ?_) (fun _ => ?_)
      · exact lm_zX10_bounded_25 w q p1 h
      · exact lm_zX10_bounded_20 w q p1 h

theorem lm_zX10_termOf_160 (w : dS) (kU : dS → Int32 → Option (Int64 × dS)) (hkU : ∀ (y0 : dS) (y1 : Int32), Fm w y0 → dAll (kU y0 y1) (fun o => Fm w o.2)) (k6 : dS → Int32 → Int64 → Option (Int64 × dS)) (hk6 : ∀ (y0 : dS) (y1 : Int32) (y2 : Int64), Fm w y0 → dAll (k6 y0 y1 y2) (fun o => Fm w o.2)) (q : dS) (x1 : Int32) (y0 : Int64) (h : Fm w q) : dAll (zX10_termOf_160 kU k6 q x1 y0) (fun o => Fm w o.2) := by
  unfold zX10_termOf_160
  refine dA_B (lm_zX10_bounded w q y0 x1 h) (fun r1 q3 hq3 => ?_)
  exact hk6 q3 x1 r1 hq3

theorem lm_zX10_termOf_121 (w : dS) (kU : dS → Int32 → Option (Int64 × dS)) (hkU : ∀ (y0 : dS) (y1 : Int32), Fm w y0 → dAll (kU y0 y1) (fun o => Fm w o.2)) (k6 : dS → Int32 → Int64 → Option (Int64 × dS)) (hk6 : ∀ (y0 : dS) (y1 : Int32) (y2 : Int64), Fm w y0 → dAll (k6 y0 y1 y2) (fun o => Fm w o.2)) (q : dS) (x1 : Int32) (x2 : Int64) (x4 : Int32) (x5 : Int64) (h : Fm w q) : dAll (zX10_termOf_121 kU k6 q x1 x2 x4 x5) (fun o => Fm w o.2) := by
  unfold zX10_termOf_121
  refine dA_V dA_tr (fun r1 _ => ?_)
  refine dA_if (fun _ => ?_) (fun _ => ?_)
  · exact lm_zX10_termOf_160 w kU hkU k6 hk6 q x1 (x2 * x5 : Int64) h
  · refine dA_V dA_tr (fun r3 _ => ?_)
    refine dA_if (fun _ => ?_) (fun _ => ?_)
    · refine dA_G (fun _ => ?_)
      exact lm_zX10_termOf_160 w kU hkU k6 hk6 q x1 (x2 / x5 : Int64) h
    · refine dA_G (fun _ => ?_)
      exact lm_zX10_termOf_160 w kU hkU k6 hk6 q x1 (x2 - x2 / x5 * x5 : Int64) h

theorem lm_zX10_termOf_115 (w : dS) (kU : dS → Int32 → Option (Int64 × dS)) (hkU : ∀ (y0 : dS) (y1 : Int32), Fm w y0 → dAll (kU y0 y1) (fun o => Fm w o.2)) (k6 : dS → Int32 → Int64 → Option (Int64 × dS)) (hk6 : ∀ (y0 : dS) (y1 : Int32) (y2 : Int64), Fm w y0 → dAll (k6 y0 y1 y2) (fun o => Fm w o.2)) (q : dS) (x1 : Int32) (x2 : Int64) (x4 : Int32) (y0 : Int32) (h : Fm w q) : dAll (zX10_termOf_115 kU k6 q x1 x2 x4 y0) (fun o => Fm w o.2) := by
  unfold zX10_termOf_115
  refine dA_G (fun _ => ?_)
  refine dA_L (fun q2 e_1 => ?_)
  have hq2 : Fm w q2 := by rw [e_1]; exact (fm_0 (by decide) h)
  exact lm_zX10_termOf_121 w kU hkU k6 hk6 q2 x1 x2 x4 1 hq2

theorem lm_zX10_termOf_110 (w : dS) (kU : dS → Int32 → Option (Int64 × dS)) (hkU : ∀ (y0 : dS) (y1 : Int32), Fm w y0 → dAll (kU y0 y1) (fun o => Fm w o.2)) (k6 : dS → Int32 → Int64 → Option (Int64 × dS)) (hk6 : ∀ (y0 : dS) (y1 : Int32) (y2 : Int64), Fm w y0 → dAll (k6 y0 y1 y2) (fun o => Fm w o.2)) (q : dS) (x1 : Int32) (x2 : Int64) (x4 : Int32) (h : Fm w q) : dAll (zX10_termOf_110 kU k6 q x1 x2 x4) (fun o => Fm w o.2) := by
  unfold zX10_termOf_110
  exact lm_zX10_termOf_115 w kU hkU k6 hk6 q x1 x2 x4 1 h

theorem lm_zX10_termOf_54 (w : dS) (kU : dS → Int32 → Option (Int64 × dS)) (hkU : ∀ (y0 : dS) (y1 : Int32), Fm w y0 → dAll (kU y0 y1) (fun o => Fm w o.2)) (k6 : dS → Int32 → Int64 → Option (Int64 × dS)) (hk6 : ∀ (y0 : dS) (y1 : Int32) (y2 : Int64), Fm w y0 → dAll (k6 y0 y1 y2) (fun o => Fm w o.2)) (q : dS) (x1 : Int32) (x2 : Int64) (h : Fm w q) : dAll (zX10_termOf_54 kU k6 q x1 x2) (fun o => Fm w o.2) := by
  unfold zX10_termOf_54
  refine dA_B (lm_zX10_codeAt w q (q.1 0 22) h) (fun r1 q3 hq3 => ?_)
  refine dA_L (fun q4 e_1 => ?_)
  have hq4 : Fm w q4 := by rw [e_1]; exact (fm_0 (by decide) hq3)
  refine dA_B (lm_zX10_partOf w kU hkU q4 x1 hq4) (fun r5 q7 hq7 => ?_)
  refine dA_V dA_tr (fun r8 _ => ?_)
  refine dA_if (fun _ => ?_) (fun _ => ?_)
  · exact lm_zX10_termOf_121 w kU hkU k6 hk6 q7 x1 x2 r1 r5 hq7
  · refine dA_if (fun _ => ?_) (fun _ => ?_)
    · refine dA_if (fun _ => ?_) (fun _ => ?_)
      · refine dA_if (fun _ => ?_) (fun _ => ?_)
        · exact lm_zX10_termOf_115 w kU hkU k6 hk6 q7 x1 x2 r1 0 hq7
        · exact lm_zX10_termOf_110 w kU hkU k6 hk6 q7 x1 x2 r1 hq7
      · exact lm_zX10_termOf_110 w kU hkU k6 hk6 q7 x1 x2 r1 hq7
    · exact lm_zX10_termOf_121 w kU hkU k6 hk6 q7 x1 x2 r1 r5 hq7

theorem lm_zX10_termOf_6b (w : dS) (kU : dS → Int32 → Option (Int64 × dS)) (hkU : ∀ (y0 : dS) (y1 : Int32), Fm w y0 → dAll (kU y0 y1) (fun o => Fm w o.2)) (k6 : dS → Int32 → Int64 → Option (Int64 × dS)) (hk6 : ∀ (y0 : dS) (y1 : Int32) (y2 : Int64), Fm w y0 → dAll (k6 y0 y1 y2) (fun o => Fm w o.2)) (q : dS) (x1 : Int32) (x2 : Int64) (h : Fm w q) : dAll (zX10_termOf_6b kU k6 q x1 x2) (fun o => Fm w o.2) := by
  unfold zX10_termOf_6b
  refine dA_B (lm_zX10_codeAt w q (q.1 0 22) h) (fun r1 q3 hq3 => ?_)
  refine dA_V dA_tr (fun r4 _ => ?_)
  refine dA_if (fun _ => ?_) (fun _ => ?_)
  · exact lm_zX10_termOf_54 w kU hkU k6 hk6 q3 x1 x2 hq3
  · refine dA_B (lm_zX10_codeAt w q3 (q3.1 0 22) hq3) (fun r6 q8 hq8 => ?_)
    refine dA_V dA_tr (fun r9 _ => ?_)
    refine dA_if (fun _ => ?_) (fun _ => ?_)
    · exact lm_zX10_termOf_54 w kU hkU k6 hk6 q8 x1 x2 hq8
    · refine dA_B (lm_zX10_codeAt w q8 (q8.1 0 22) hq8) (fun r11 q13 hq13 => ?_)
      refine dA_V dA_tr (fun r14 _ => ?_)
      refine dA_if (fun _ => ?_) (fun _ => ?_)
      · exact lm_zX10_termOf_54 w kU hkU k6 hk6 q13 x1 x2 hq13
      · exact dA_some hq13

theorem lm_zX10_termOf_6 (w : dS) (kU : dS → Int32 → Option (Int64 × dS)) (hkU : ∀ (y0 : dS) (y1 : Int32), Fm w y0 → dAll (kU y0 y1) (fun o => Fm w o.2)) (n : Nat) (q : dS) (x1 : Int32) (x2 : Int64) (h : Fm w q) : dAll (zX10_termOf_6 kU n q x1 x2) (fun o => Fm w o.2) := by
  unfold zX10_termOf_6
  exact dA_fix (fun (a : dS × Int32 × Int64) => Fm w a.1) (fun k hk a ha => lm_zX10_termOf_6b w kU hkU _ (fun q x1 x2 hq => hk (q, x1, x2) hq) a.1 a.2.1 a.2.2 ha) n _ h

theorem lm_zX10_termOf (w : dS) (kU : dS → Int32 → Option (Int64 × dS)) (hkU : ∀ (y0 : dS) (y1 : Int32), Fm w y0 → dAll (kU y0 y1) (fun o => Fm w o.2)) (q : dS) (p1 : Int32) (h : Fm w q) : dAll (zX10_termOf kU q p1) (fun o => Fm w o.2) := by
  unfold zX10_termOf
  refine dA_B (lm_zX10_partOf w kU hkU q p1 h) (fun r1 q3 hq3 => ?_)
  exact lm_zX10_termOf_6 w kU hkU dF q3 p1 r1 hq3

theorem lm_zX10_sumOf_95 (w : dS) (kU : dS → Int32 → Option (Int64 × dS)) (hkU : ∀ (y0 : dS) (y1 : Int32), Fm w y0 → dAll (kU y0 y1) (fun o => Fm w o.2)) (k6 : dS → Int32 → Int64 → Option (Int64 × dS)) (hk6 : ∀ (y0 : dS) (y1 : Int32) (y2 : Int64), Fm w y0 → dAll (k6 y0 y1 y2) (fun o => Fm w o.2)) (q : dS) (x1 : Int32) (y0 : Int64) (h : Fm w q) : dAll (zX10_sumOf_95 kU k6 q x1 y0) (fun o => Fm w o.2) := by
  unfold zX10_sumOf_95
  refine dA_B (lm_zX10_bounded w q y0 x1 h) (fun r1 q3 hq3 => ?_)
  exact hk6 q3 x1 r1 hq3

theorem lm_zX10_sumOf_59 (w : dS) (kU : dS → Int32 → Option (Int64 × dS)) (hkU : ∀ (y0 : dS) (y1 : Int32), Fm w y0 → dAll (kU y0 y1) (fun o => Fm w o.2)) (k6 : dS → Int32 → Int64 → Option (Int64 × dS)) (hk6 : ∀ (y0 : dS) (y1 : Int32) (y2 : Int64), Fm w y0 → dAll (k6 y0 y1 y2) (fun o => Fm w o.2)) (q : dS) (x1 : Int32) (x2 : Int64) (y0 : Int32) (h : Fm w q) : dAll (zX10_sumOf_59 kU k6 q x1 x2 y0) (fun o => Fm w o.2) := by
  unfold zX10_sumOf_59
  refine dA_L (fun q1 e_1 => ?_)
  have hq1 : Fm w q1 := by rw [e_1]; exact (fm_0 (by decide) h)
  refine dA_B (lm_zX10_termOf w kU hkU q1 x1 hq1) (fun r2 q4 hq4 => ?_)
  refine dA_if (fun _ => ?_) (fun _ => ?_)
  · exact lm_zX10_sumOf_95 w kU hkU k6 hk6 q4 x1 (x2 - r2 : Int64) hq4
  · exact lm_zX10_sumOf_95 w kU hkU k6 hk6 q4 x1 (x2 + r2 : Int64) hq4

theorem lm_zX10_sumOf_38 (w : dS) (kU : dS → Int32 → Option (Int64 × dS)) (hkU : ∀ (y0 : dS) (y1 : Int32), Fm w y0 → dAll (kU y0 y1) (fun o => Fm w o.2)) (k6 : dS → Int32 → Int64 → Option (Int64 × dS)) (hk6 : ∀ (y0 : dS) (y1 : Int32) (y2 : Int64), Fm w y0 → dAll (k6 y0 y1 y2) (fun o => Fm w o.2)) (q : dS) (x1 : Int32) (x2 : Int64) (h : Fm w q) : dAll (zX10_sumOf_38 kU k6 q x1 x2) (fun o => Fm w o.2) := by
  unfold zX10_sumOf_38
  refine dA_B (lm_zX10_codeAt w q (q.1 0 22) h) (fun r1 q3 hq3 => ?_)
  refine dA_V dA_tr (fun r4 _ => ?_)
  refine dA_if (fun _ => ?_) (fun _ => ?_)
  · exact lm_zX10_sumOf_59 w kU hkU k6 hk6 q3 x1 x2 1 hq3
  · exact lm_zX10_sumOf_59 w kU hkU k6 hk6 q3 x1 x2 0 hq3

theorem lm_zX10_sumOf_6b (w : dS) (kU : dS → Int32 → Option (Int64 × dS)) (hkU : ∀ (y0 : dS) (y1 : Int32), Fm w y0 → dAll (kU y0 y1) (fun o => Fm w o.2)) (k6 : dS → Int32 → Int64 → Option (Int64 × dS)) (hk6 : ∀ (y0 : dS) (y1 : Int32) (y2 : Int64), Fm w y0 → dAll (k6 y0 y1 y2) (fun o => Fm w o.2)) (q : dS) (x1 : Int32) (x2 : Int64) (h : Fm w q) : dAll (zX10_sumOf_6b kU k6 q x1 x2) (fun o => Fm w o.2) := by
  unfold zX10_sumOf_6b
  refine dA_B (lm_zX10_codeAt w q (q.1 0 22) h) (fun r1 q3 hq3 => ?_)
  refine dA_V dA_tr (fun r4 _ => ?_)
  refine dA_if (fun _ => ?_) (fun _ => ?_)
  · exact lm_zX10_sumOf_38 w kU hkU k6 hk6 q3 x1 x2 hq3
  · refine dA_B (lm_zX10_codeAt w q3 (q3.1 0 22) hq3) (fun r6 q8 hq8 => ?_)
    refine dA_V dA_tr (fun r9 _ => ?_)
    refine dA_if (fun _ => ?_) (fun _ => ?_)
    · exact lm_zX10_sumOf_38 w kU hkU k6 hk6 q8 x1 x2 hq8
    · exact dA_some hq8

theorem lm_zX10_sumOf_6 (w : dS) (kU : dS → Int32 → Option (Int64 × dS)) (hkU : ∀ (y0 : dS) (y1 : Int32), Fm w y0 → dAll (kU y0 y1) (fun o => Fm w o.2)) (n : Nat) (q : dS) (x1 : Int32) (x2 : Int64) (h : Fm w q) : dAll (zX10_sumOf_6 kU n q x1 x2) (fun o => Fm w o.2) := by
  unfold zX10_sumOf_6
  exact dA_fix (fun (a : dS × Int32 × Int64) => Fm w a.1) (fun k hk a ha => lm_zX10_sumOf_6b w kU hkU _ (fun q x1 x2 hq => hk (q, x1, x2) hq) a.1 a.2.1 a.2.2 ha) n _ h

theorem lm_zX10_sumOf_o (w : dS) (kU : dS → Int32 → Option (Int64 × dS)) (hkU : ∀ (y0 : dS) (y1 : Int32), Fm w y0 → dAll (kU y0 y1) (fun o => Fm w o.2)) (q : dS) (p1 : Int32) (h : Fm w q) : dAll (zX10_sumOf_o kU q p1) (fun o => Fm w o.2) := by
  unfold zX10_sumOf_o
  refine dA_B (lm_zX10_termOf w kU hkU q p1 h) (fun r1 q3 hq3 => ?_)
  exact lm_zX10_sumOf_6 w kU hkU dF q3 p1 r1 hq3

theorem lm_zX10_sumOf (w : dS) (n : Nat) : ∀ (q : dS) (p1 : Int32) (h : Fm w q), dAll (zX10_sumOf n q p1) (fun o => Fm w o.2) := by
  induction n with
  | zero => intro q p1 h o e; cases e
  | succ n ih => intro q p1 h; exact lm_zX10_sumOf_o w (zX10_sumOf n) ih q p1 h

theorem lm_zX10_positiveOf_126 (w : dS) (kV : dS → Int32 → Option (Int32 × dS)) (hkV : ∀ (y0 : dS) (y1 : Int32), Fm w y0 → dAll (kV y0 y1) (fun o => Fm w o.2)) (q : dS) (y0 : Int32) (h : Fm w q) : dAll (zX10_positiveOf_126 kV q y0) (fun o => Fm w o.2) := by
  unfold zX10_positiveOf_126
  refine dA_G (fun _ => ?_)
  exact dA_some h

theorem lm_zX10_positiveOf_125 (w : dS) (kV : dS → Int32 → Option (Int32 × dS)) (hkV : ∀ (y0 : dS) (y1 : Int32), Fm w y0 → dAll (kV y0 y1) (fun o => Fm w o.2)) (q : dS) (h : Fm w q) : dAll (zX10_positiveOf_125 kV q) (fun o => Fm w o.2) := by
  unfold zX10_positiveOf_125
  exact lm_zX10_positiveOf_126 w kV hkV q 0 h

theorem lm_zX10_positiveOf_121 (w : dS) (kV : dS → Int32 → Option (Int32 × dS)) (hkV : ∀ (y0 : dS) (y1 : Int32), Fm w y0 → dAll (kV y0 y1) (fun o => Fm w o.2)) (q : dS) (h : Fm w q) : dAll (zX10_positiveOf_121 kV q) (fun o => Fm w o.2) := by
  unfold zX10_positiveOf_121
  exact lm_zX10_positiveOf_126 w kV hkV q 1 h

theorem lm_zX10_positiveOf (w : dS) (kV : dS → Int32 → Option (Int32 × dS)) (hkV : ∀ (y0 : dS) (y1 : Int32), Fm w y0 → dAll (kV y0 y1) (fun o => Fm w o.2)) (q : dS) (p1 : Int32) (h : Fm w q) : dAll (zX10_positiveOf kV q p1) (fun o => Fm w o.2) := by
  unfold zX10_positiveOf
  refine dA_V dA_tr (fun r1 _ => ?_)
  refine dA_B (lm_zX10_passes0 w q r1 h) (fun r3 q5 hq5 => ?_)
  refine dA_if (fun _ => ?_) (fun _ => ?_)
  · refine dA_B (lm_zX10_sumOf w 10 q5 p1 hq5) (fun r6 q8 hq8 => ?_)
    refine dA_B (lm_zX10_codeAt w q8 (q8.1 0 22) hq8) (fun r9 q11 hq11 => ?_)
    refine dA_L (fun q12 e_1 => ?_)
    have hq12 : Fm w q12 := by rw [e_1]; exact (fm_0 (by decide) hq11)
    refine dA_B (lm_zX10_sumOf w 10 q12 p1 hq12) (fun r13 q15 hq15 => ?_)
    refine dA_if (fun _ => ?_) (fun _ => ?_)
    · exact lm_zX10_positiveOf_125 w kV hkV q15 hq15
    · refine dA_if (fun _ => ?_) (fun _ => ?_)
      · refine dA_V dA_tr (fun r16 _ => ?_)
        refine dA_if (fun _ => ?_) (fun _ => ?_)
        · refine dA_if (fun _ => ?_) (fun _ => ?_)
          · exact lm_zX10_positiveOf_125 w kV hkV q15 hq15
          · exact lm_zX10_positiveOf_121 w kV hkV q15 hq15
        · refine dA_V dA_tr (fun r18 _ => ?_)
          refine dA_if (fun _ => ?_) (fun _ => ?_)
          · refine dA_if (fun _ => ?_) (fun _ => ?_)
            · exact lm_zX10_positiveOf_125 w kV hkV q15 hq15
            · exact lm_zX10_positiveOf_121 w kV hkV q15 hq15
          · refine dA_if (fun _ => ?_) (fun _ => ?_)
            · exact lm_zX10_positiveOf_121 w kV hkV q15 hq15
            · exact lm_zX10_positiveOf_125 w kV hkV q15 hq15
      · exact lm_zX10_positiveOf_125 w kV hkV q15 hq15
  · refine dA_B (hkV q5 p1 hq5) (fun r20 q22 hq22 => ?_)
    refine dA_L (fun q23 e_2 => ?_)
    have hq23 : Fm w q23 := by rw [e_2]; exact (fm_0 (by decide) hq22)
    refine dA_G (fun _ => ?_)
    exact dA_some hq23

theorem lm_zX10_plainOf_38 (w : dS) (kV : dS → Int32 → Option (Int32 × dS)) (hkV : ∀ (y0 : dS) (y1 : Int32), Fm w y0 → dAll (kV y0 y1) (fun o => Fm w o.2)) (q : dS) (y0 : Int32) (h : Fm w q) : dAll (zX10_plainOf_38 kV q y0) (fun o => Fm w o.2) := by
  unfold zX10_plainOf_38
  refine dA_G (fun _ => ?_)
  exact dA_some h

theorem lm_zX10_plainOf_20 (w : dS) (kV : dS → Int32 → Option (Int32 × dS)) (hkV : ∀ (y0 : dS) (y1 : Int32), Fm w y0 → dAll (kV y0 y1) (fun o => Fm w o.2)) (k2 : dS → Int32 → Int32 → Option (Int32 × dS)) (hk2 : ∀ (y0 : dS) (y1 : Int32) (y2 : Int32), Fm w y0 → dAll (k2 y0 y1 y2) (fun o => Fm w o.2)) (q : dS) (x1 : Int32) (y0 : Int32) (h : Fm w q) : dAll (zX10_plainOf_20 kV k2 q x1 y0) (fun o => Fm w o.2) := by
  unfold zX10_plainOf_20
  exact hk2 q x1 y0 h

theorem lm_zX10_plainOf_2b (w : dS) (kV : dS → Int32 → Option (Int32 × dS)) (hkV : ∀ (y0 : dS) (y1 : Int32), Fm w y0 → dAll (kV y0 y1) (fun o => Fm w o.2)) (k2 : dS → Int32 → Int32 → Option (Int32 × dS)) (hk2 : ∀ (y0 : dS) (y1 : Int32) (y2 : Int32), Fm w y0 → dAll (k2 y0 y1 y2) (fun o => Fm w o.2)) (q : dS) (x1 : Int32) (x2 : Int32) (h : Fm w q) : dAll (zX10_plainOf_2b kV k2 q x1 x2) (fun o => Fm w o.2) := by
  unfold zX10_plainOf_2b
  refine dA_B (lm_zX10_passes0 w q 7 h) (fun r1 q3 hq3 => ?_)
  refine dA_if (fun _ => ?_) (fun _ => ?_)
  · refine dA_B (lm_zX10_positiveOf w kV hkV q3 x1 hq3) (fun r4 q6 hq6 => ?_)
    refine dA_if (fun _ => ?_) (fun _ => ?_)
    · exact lm_zX10_plainOf_38 w kV hkV q6 0 hq6
    · exact lm_zX10_plainOf_38 w kV hkV q6 1 hq6
  · refine dA_if (fun _ => ?_) (fun _ => ?_)
    · exact lm_zX10_plainOf_20 w kV hkV k2 hk2 q3 x1 1 hq3
    · exact lm_zX10_plainOf_20 w kV hkV k2 hk2 q3 x1 0 hq3

theorem lm_zX10_plainOf_2 (w : dS) (kV : dS → Int32 → Option (Int32 × dS)) (hkV : ∀ (y0 : dS) (y1 : Int32), Fm w y0 → dAll (kV y0 y1) (fun o => Fm w o.2)) (n : Nat) (q : dS) (x1 : Int32) (x2 : Int32) (h : Fm w q) : dAll (zX10_plainOf_2 kV n q x1 x2) (fun o => Fm w o.2) := by
  unfold zX10_plainOf_2
  exact dA_fix (fun (a : dS × Int32 × Int32) => Fm w a.1) (fun k hk a ha => lm_zX10_plainOf_2b w kV hkV _ (fun q x1 x2 hq => hk (q, x1, x2) hq) a.1 a.2.1 a.2.2 ha) n _ h

theorem lm_zX10_plainOf (w : dS) (kV : dS → Int32 → Option (Int32 × dS)) (hkV : ∀ (y0 : dS) (y1 : Int32), Fm w y0 → dAll (kV y0 y1) (fun o => Fm w o.2)) (q : dS) (p1 : Int32) (h : Fm w q) : dAll (zX10_plainOf kV q p1) (fun o => Fm w o.2) := by
  unfold zX10_plainOf
  exact lm_zX10_plainOf_2 w kV hkV dF q p1 0 h

theorem lm_zX10_bothOf_46 (w : dS) (kV : dS → Int32 → Option (Int32 × dS)) (hkV : ∀ (y0 : dS) (y1 : Int32), Fm w y0 → dAll (kV y0 y1) (fun o => Fm w o.2)) (k6 : dS → Int32 → Int32 → Option (Int32 × dS)) (hk6 : ∀ (y0 : dS) (y1 : Int32) (y2 : Int32), Fm w y0 → dAll (k6 y0 y1 y2) (fun o => Fm w o.2)) (q : dS) (x1 : Int32) (y0 : Int32) (h : Fm w q) : dAll (zX10_bothOf_46 kV k6 q x1 y0) (fun o => Fm w o.2) := by
  unfold zX10_bothOf_46
  exact hk6 q x1 y0 h

theorem lm_zX10_bothOf_45 (w : dS) (kV : dS → Int32 → Option (Int32 × dS)) (hkV : ∀ (y0 : dS) (y1 : Int32), Fm w y0 → dAll (kV y0 y1) (fun o => Fm w o.2)) (k6 : dS → Int32 → Int32 → Option (Int32 × dS)) (hk6 : ∀ (y0 : dS) (y1 : Int32) (y2 : Int32), Fm w y0 → dAll (k6 y0 y1 y2) (fun o => Fm w o.2)) (q : dS) (x1 : Int32) (h : Fm w q) : dAll (zX10_bothOf_45 kV k6 q x1) (fun o => Fm w o.2) := by
  unfold zX10_bothOf_45
  exact lm_zX10_bothOf_46 w kV hkV k6 hk6 q x1 0 h

theorem lm_zX10_bothOf_29 (w : dS) (kV : dS → Int32 → Option (Int32 × dS)) (hkV : ∀ (y0 : dS) (y1 : Int32), Fm w y0 → dAll (kV y0 y1) (fun o => Fm w o.2)) (k6 : dS → Int32 → Int32 → Option (Int32 × dS)) (hk6 : ∀ (y0 : dS) (y1 : Int32) (y2 : Int32), Fm w y0 → dAll (k6 y0 y1 y2) (fun o => Fm w o.2)) (q : dS) (x1 : Int32) (x2 : Int32) (y0 : Int32) (h : Fm w q) : dAll (zX10_bothOf_29 kV k6 q x1 x2 y0) (fun o => Fm w o.2) := by
  unfold zX10_bothOf_29
  refine dA_B (lm_zX10_plainOf w kV hkV q y0 h) (fun r1 q3 hq3 => ?_)
  refine dA_if (fun _ => ?_) (fun _ => ?_)
  · exact lm_zX10_bothOf_45 w kV hkV k6 hk6 q3 x1 hq3
  · refine dA_if (fun _ => ?_) (fun _ => ?_)
    · exact lm_zX10_bothOf_45 w kV hkV k6 hk6 q3 x1 hq3
    · exact lm_zX10_bothOf_46 w kV hkV k6 hk6 q3 x1 1 hq3

theorem lm_zX10_bothOf_28 (w : dS) (kV : dS → Int32 → Option (Int32 × dS)) (hkV : ∀ (y0 : dS) (y1 : Int32), Fm w y0 → dAll (kV y0 y1) (fun o => Fm w o.2)) (k6 : dS → Int32 → Int32 → Option (Int32 × dS)) (hk6 : ∀ (y0 : dS) (y1 : Int32) (y2 : Int32), Fm w y0 → dAll (k6 y0 y1 y2) (fun o => Fm w o.2)) (q : dS) (x1 : Int32) (x2 : Int32) (h : Fm w q) : dAll (zX10_bothOf_28 kV k6 q x1 x2) (fun o => Fm w o.2) := by
  unfold zX10_bothOf_28
  exact lm_zX10_bothOf_29 w kV hkV k6 hk6 q x1 x2 0 h

theorem lm_zX10_bothOf_6b (w : dS) (kV : dS → Int32 → Option (Int32 × dS)) (hkV : ∀ (y0 : dS) (y1 : Int32), Fm w y0 → dAll (kV y0 y1) (fun o => Fm w o.2)) (k6 : dS → Int32 → Int32 → Option (Int32 × dS)) (hk6 : ∀ (y0 : dS) (y1 : Int32) (y2 : Int32), Fm w y0 → dAll (k6 y0 y1 y2) (fun o => Fm w o.2)) (q : dS) (x1 : Int32) (x2 : Int32) (h : Fm w q) : dAll (zX10_bothOf_6b kV k6 q x1 x2) (fun o => Fm w o.2) := by
  unfold zX10_bothOf_6b
  refine dA_B (lm_zX10_passes0 w q 6 h) (fun r1 q3 hq3 => ?_)
  refine dA_if (fun _ => ?_) (fun _ => ?_)
  · refine dA_G (fun _ => ?_)
    exact dA_some hq3
  · refine dA_if (fun _ => ?_) (fun _ => ?_)
    · exact lm_zX10_bothOf_28 w kV hkV k6 hk6 q3 x1 x2 hq3
    · refine dA_if (fun _ => ?_) (fun _ => ?_)
      · exact lm_zX10_bothOf_28 w kV hkV k6 hk6 q3 x1 x2 hq3
      · exact lm_zX10_bothOf_29 w kV hkV k6 hk6 q3 x1 x2 1 hq3

theorem lm_zX10_bothOf_6 (w : dS) (kV : dS → Int32 → Option (Int32 × dS)) (hkV : ∀ (y0 : dS) (y1 : Int32), Fm w y0 → dAll (kV y0 y1) (fun o => Fm w o.2)) (n : Nat) (q : dS) (x1 : Int32) (x2 : Int32) (h : Fm w q) : dAll (zX10_bothOf_6 kV n q x1 x2) (fun o => Fm w o.2) := by
  unfold zX10_bothOf_6
  exact dA_fix (fun (a : dS × Int32 × Int32) => Fm w a.1) (fun k hk a ha => lm_zX10_bothOf_6b w kV hkV _ (fun q x1 x2 hq => hk (q, x1, x2) hq) a.1 a.2.1 a.2.2 ha) n _ h

theorem lm_zX10_bothOf (w : dS) (kV : dS → Int32 → Option (Int32 × dS)) (hkV : ∀ (y0 : dS) (y1 : Int32), Fm w y0 → dAll (kV y0 y1) (fun o => Fm w o.2)) (q : dS) (p1 : Int32) (h : Fm w q) : dAll (zX10_bothOf kV q p1) (fun o => Fm w o.2) := by
  unfold zX10_bothOf
  refine dA_B (lm_zX10_plainOf w kV hkV q p1 h) (fun r1 q3 hq3 => ?_)
  exact lm_zX10_bothOf_6 w kV hkV dF q3 p1 r1 hq3

theorem lm_zX10_testOf_45 (w : dS) (kV : dS → Int32 → Option (Int32 × dS)) (hkV : ∀ (y0 : dS) (y1 : Int32), Fm w y0 → dAll (kV y0 y1) (fun o => Fm w o.2)) (k6 : dS → Int32 → Int32 → Option (Int32 × dS)) (hk6 : ∀ (y0 : dS) (y1 : Int32) (y2 : Int32), Fm w y0 → dAll (k6 y0 y1 y2) (fun o => Fm w o.2)) (q : dS) (x1 : Int32) (y0 : Int32) (h : Fm w q) : dAll (zX10_testOf_45 kV k6 q x1 y0) (fun o => Fm w o.2) := by
  unfold zX10_testOf_45
  exact hk6 q x1 y0 h

theorem lm_zX10_testOf_40 (w : dS) (kV : dS → Int32 → Option (Int32 × dS)) (hkV : ∀ (y0 : dS) (y1 : Int32), Fm w y0 → dAll (kV y0 y1) (fun o => Fm w o.2)) (k6 : dS → Int32 → Int32 → Option (Int32 × dS)) (hk6 : ∀ (y0 : dS) (y1 : Int32) (y2 : Int32), Fm w y0 → dAll (k6 y0 y1 y2) (fun o => Fm w o.2)) (q : dS) (x1 : Int32) (h : Fm w q) : dAll (zX10_testOf_40 kV k6 q x1) (fun o => Fm w o.2) := by
  unfold zX10_testOf_40
  exact lm_zX10_testOf_45 w kV hkV k6 hk6 q x1 1 h

theorem lm_zX10_testOf_28 (w : dS) (kV : dS → Int32 → Option (Int32 × dS)) (hkV : ∀ (y0 : dS) (y1 : Int32), Fm w y0 → dAll (kV y0 y1) (fun o => Fm w o.2)) (k6 : dS → Int32 → Int32 → Option (Int32 × dS)) (hk6 : ∀ (y0 : dS) (y1 : Int32) (y2 : Int32), Fm w y0 → dAll (k6 y0 y1 y2) (fun o => Fm w o.2)) (q : dS) (x1 : Int32) (x2 : Int32) (y0 : Int32) (h : Fm w q) : dAll (zX10_testOf_28 kV k6 q x1 x2 y0) (fun o => Fm w o.2) := by
  unfold zX10_testOf_28
  refine dA_B (lm_zX10_bothOf w kV hkV q y0 h) (fun r1 q3 hq3 => ?_)
  refine dA_if (fun _ => ?_) (fun _ => ?_)
  · refine dA_if (fun _ => ?_) (fun _ => ?_)
    · exact lm_zX10_testOf_45 w kV hkV k6 hk6 q3 x1 0 hq3
    · exact lm_zX10_testOf_40 w kV hkV k6 hk6 q3 x1 hq3
  · exact lm_zX10_testOf_40 w kV hkV k6 hk6 q3 x1 hq3

theorem lm_zX10_testOf_27 (w : dS) (kV : dS → Int32 → Option (Int32 × dS)) (hkV : ∀ (y0 : dS) (y1 : Int32), Fm w y0 → dAll (kV y0 y1) (fun o => Fm w o.2)) (k6 : dS → Int32 → Int32 → Option (Int32 × dS)) (hk6 : ∀ (y0 : dS) (y1 : Int32) (y2 : Int32), Fm w y0 → dAll (k6 y0 y1 y2) (fun o => Fm w o.2)) (q : dS) (x1 : Int32) (x2 : Int32) (h : Fm w q) : dAll (zX10_testOf_27 kV k6 q x1 x2) (fun o => Fm w o.2) := by
  unfold zX10_testOf_27
  exact lm_zX10_testOf_28 w kV hkV k6 hk6 q x1 x2 0 h

theorem lm_zX10_testOf_6b (w : dS) (kV : dS → Int32 → Option (Int32 × dS)) (hkV : ∀ (y0 : dS) (y1 : Int32), Fm w y0 → dAll (kV y0 y1) (fun o => Fm w o.2)) (k6 : dS → Int32 → Int32 → Option (Int32 × dS)) (hk6 : ∀ (y0 : dS) (y1 : Int32) (y2 : Int32), Fm w y0 → dAll (k6 y0 y1 y2) (fun o => Fm w o.2)) (q : dS) (x1 : Int32) (x2 : Int32) (h : Fm w q) : dAll (zX10_testOf_6b kV k6 q x1 x2) (fun o => Fm w o.2) := by
  unfold zX10_testOf_6b
  refine dA_B (lm_zX10_passes0 w q 5 h) (fun r1 q3 hq3 => ?_)
  refine dA_if (fun _ => ?_) (fun _ => ?_)
  · refine dA_G (fun _ => ?_)
    exact dA_some hq3
  · refine dA_if (fun _ => ?_) (fun _ => ?_)
    · exact lm_zX10_testOf_27 w kV hkV k6 hk6 q3 x1 x2 hq3
    · refine dA_if (fun _ => ?_) (fun _ => ?_)
      · exact lm_zX10_testOf_28 w kV hkV k6 hk6 q3 x1 x2 1 hq3
      · exact lm_zX10_testOf_27 w kV hkV k6 hk6 q3 x1 x2 hq3

theorem lm_zX10_testOf_6 (w : dS) (kV : dS → Int32 → Option (Int32 × dS)) (hkV : ∀ (y0 : dS) (y1 : Int32), Fm w y0 → dAll (kV y0 y1) (fun o => Fm w o.2)) (n : Nat) (q : dS) (x1 : Int32) (x2 : Int32) (h : Fm w q) : dAll (zX10_testOf_6 kV n q x1 x2) (fun o => Fm w o.2) := by
  unfold zX10_testOf_6
  exact dA_fix (fun (a : dS × Int32 × Int32) => Fm w a.1) (fun k hk a ha => lm_zX10_testOf_6b w kV hkV _ (fun q x1 x2 hq => hk (q, x1, x2) hq) a.1 a.2.1 a.2.2 ha) n _ h

theorem lm_zX10_testOf_o (w : dS) (kV : dS → Int32 → Option (Int32 × dS)) (hkV : ∀ (y0 : dS) (y1 : Int32), Fm w y0 → dAll (kV y0 y1) (fun o => Fm w o.2)) (q : dS) (p1 : Int32) (h : Fm w q) : dAll (zX10_testOf_o kV q p1) (fun o => Fm w o.2) := by
  unfold zX10_testOf_o
  refine dA_B (lm_zX10_bothOf w kV hkV q p1 h) (fun r1 q3 hq3 => ?_)
  exact lm_zX10_testOf_6 w kV hkV dF q3 p1 r1 hq3

theorem lm_zX10_testOf (w : dS) (n : Nat) : ∀ (q : dS) (p1 : Int32) (h : Fm w q), dAll (zX10_testOf n q p1) (fun o => Fm w o.2) := by
  induction n with
  | zero => intro q p1 h o e; cases e
  | succ n ih => intro q p1 h; exact lm_zX10_testOf_o w (zX10_testOf n) ih q p1 h

theorem lm_zX10_tells_199 (w : dS) (k60 : dS → Int32 → Int64 → Option (Int32 × dS)) (hk60 : ∀ (y0 : dS) (y1 : Int32) (y2 : Int64), Fm w y0 → dAll (k60 y0 y1 y2) (fun o => Fm w o.2)) (q : dS) (x1 : Int32) (x3 : Int64) (h : Fm w q) : dAll (zX10_tells_199 k60 q x1 x3) (fun o => Fm w o.2) := by
  unfold zX10_tells_199
  refine dA_L (fun q1 e_1 => ?_)
  have hq1 : Fm w q1 := by rw [e_1]; exact (fm_0 (by decide) h)
  exact hk60 q1 x1 x3 hq1

theorem lm_zX10_tells_198 (w : dS) (k60 : dS → Int32 → Int64 → Option (Int32 × dS)) (hk60 : ∀ (y0 : dS) (y1 : Int32) (y2 : Int64), Fm w y0 → dAll (k60 y0 y1 y2) (fun o => Fm w o.2)) (q : dS) (x1 : Int32) (y0 : Int64) (h : Fm w q) : dAll (zX10_tells_198 k60 q x1 y0) (fun o => Fm w o.2) := by
  unfold zX10_tells_198
  exact lm_zX10_tells_199 w k60 hk60 q x1 y0 h

theorem lm_zX10_tells_145 (w : dS) (k60 : dS → Int32 → Int64 → Option (Int32 × dS)) (hk60 : ∀ (y0 : dS) (y1 : Int32) (y2 : Int64), Fm w y0 → dAll (k60 y0 y1 y2) (fun o => Fm w o.2)) (q : dS) (x1 : Int32) (x3 : Int64) (x5 : Int32) (x6 : Int64) (x8 : Int32) (y0 : Int32) (h : Fm w q) : dAll (zX10_tells_145 k60 q x1 x3 x5 x6 x8 y0) (fun o => Fm w o.2) := by
  unfold zX10_tells_145
  refine dA_if (fun _ => ?_) (fun _ => ?_)
  · refine dA_if (fun _ => ?_) (fun _ => ?_)
    · exact lm_zX10_tells_199 w k60 hk60 q x1 x3 h
    · refine dA_if (fun _ => ?_) (fun _ => ?_)
      · refine dA_if (fun _ => ?_) (fun _ => ?_)
        · refine dA_if (fun _ => ?_) (fun _ => ?_)
          · refine dA_if (fun _ => ?_) (fun _ => ?_)
            · exact lm_zX10_tells_198 w k60 hk60 q x1 x6 h
            · exact lm_zX10_tells_198 w k60 hk60 q x1 99 h
          · exact lm_zX10_tells_198 w k60 hk60 q x1 0 h
        · exact lm_zX10_tells_199 w k60 hk60 q x1 x3 h
      · exact lm_zX10_tells_199 w k60 hk60 q x1 x3 h
  · exact lm_zX10_tells_199 w k60 hk60 q x1 x3 h

theorem lm_zX10_tells_140 (w : dS) (k60 : dS → Int32 → Int64 → Option (Int32 × dS)) (hk60 : ∀ (y0 : dS) (y1 : Int32) (y2 : Int64), Fm w y0 → dAll (k60 y0 y1 y2) (fun o => Fm w o.2)) (q : dS) (x1 : Int32) (x3 : Int64) (x5 : Int32) (x6 : Int64) (x8 : Int32) (h : Fm w q) : dAll (zX10_tells_140 k60 q x1 x3 x5 x6 x8) (fun o => Fm w o.2) := by
  unfold zX10_tells_140
  exact lm_zX10_tells_145 w k60 hk60 q x1 x3 x5 x6 x8 1 h

theorem lm_zX10_tells_111 (w : dS) (k60 : dS → Int32 → Int64 → Option (Int32 × dS)) (hk60 : ∀ (y0 : dS) (y1 : Int32) (y2 : Int64), Fm w y0 → dAll (k60 y0 y1 y2) (fun o => Fm w o.2)) (q : dS) (x1 : Int32) (x3 : Int64) (x5 : Int32) (y0 : Int64) (h : Fm w q) : dAll (zX10_tells_111 k60 q x1 x3 x5 y0) (fun o => Fm w o.2) := by
  unfold zX10_tells_111
  refine dA_L (fun q1 e_1 => ?_)
  have hq1 : Fm w q1 := by rw [e_1]; exact (fm_0 (by decide) h)
  refine dA_B (lm_zX10_passes0 w q1 4 hq1) (fun r2 q4 hq4 => ?_)
  refine dA_if (fun _ => ?_) (fun _ => ?_)
  · exact lm_zX10_tells_140 w k60 hk60 q4 x1 x3 x5 y0 (q.1 0 24) hq4
  · refine dA_B (lm_zX10_testOf w 10 q4 1 hq4) (fun r5 q7 hq7 => ?_)
    refine dA_if (fun _ => ?_) (fun _ => ?_)
    · exact lm_zX10_tells_145 w k60 hk60 q7 x1 x3 x5 y0 (q.1 0 24) 0 hq7
    · exact lm_zX10_tells_140 w k60 hk60 q7 x1 x3 x5 y0 (q.1 0 24) hq7

theorem lm_zX10_tells_60b (w : dS) (k60 : dS → Int32 → Int64 → Option (Int32 × dS)) (hk60 : ∀ (y0 : dS) (y1 : Int32) (y2 : Int64), Fm w y0 → dAll (k60 y0 y1 y2) (fun o => Fm w o.2)) (q : dS) (x1 : Int32) (x3 : Int64) (h : Fm w q) : dAll (zX10_tells_60b k60 q x1 x3) (fun o => Fm w o.2) := by
  unfold zX10_tells_60b
  refine dA_if (fun _ => ?_) (fun _ => ?_)
  · exact dA_some h
  · refine dA_B (lm_zX10_codeAt w q (q.1 0 22) h) (fun r1 q3 hq3 => ?_)
    refine dA_L (fun q4 e_1 => ?_)
    have hq4 : Fm w q4 := by rw [e_1]; exact (fm_0 (by decide) hq3)
    refine dA_L (fun q5 e_2 => ?_)
    have hq5 : Fm w q5 := by rw [e_2]; exact (fm_0 (by decide) hq4)
    refine dA_if (fun _ => ?_) (fun _ => ?_)
    · refine dA_B (lm_zX10_sumOf w 10 q5 1 hq5) (fun r6 q8 hq8 => ?_)
      exact lm_zX10_tells_111 w k60 hk60 q8 x1 x3 r1 r6 hq8
    · exact lm_zX10_tells_111 w k60 hk60 q5 x1 x3 r1 1 hq5

theorem lm_zX10_tells_60 (w : dS) (n : Nat) (q : dS) (x1 : Int32) (x3 : Int64) (h : Fm w q) : dAll (zX10_tells_60 n q x1 x3) (fun o => Fm w o.2) := by
  unfold zX10_tells_60
  exact dA_fix (fun (a : dS × Int32 × Int64) => Fm w a.1) (fun k hk a ha => lm_zX10_tells_60b w  _ (fun q x1 x3 hq => hk (q, x1, x3) hq) a.1 a.2.1 a.2.2 ha) n _ h

theorem lm_zX10_tells (w : dS) (q : dS) (p1 : Int32) (p2 : Int32) (h : Fm w q) : dAll (zX10_tells q p1 p2) (fun o => Fm w o.2) := by
  unfold zX10_tells
  refine dA_if (fun _ => ?_) (fun _ => ?_)
  · exact dA_some h
  · refine dA_L (fun q1 e_1 => ?_)
    have hq1 : Fm w q1 := by rw [e_1]; exact (fm_0 (by decide) h)
    refine dA_L (fun q2 e_2 => ?_)
    have hq2 : Fm w q2 := by rw [e_2]; exact (fm_0 (by decide) hq1)
    refine dA_G (fun _ => ?_)
    refine dA_L (fun v4 e_3 => ?_)
    refine dA_L (fun q5 e_4 => ?_)
    have hq5 : Fm w q5 := by rw [e_4]; exact (fm_0 (by decide) hq2)
    exact lm_zX10_tells_60 w dF q5 p1 (Int32.toInt64 p2) hq5

theorem lm_zX10_isNow_15 (w : dS) (q : dS) (y0 : Int32) (h : Fm w q) : dAll (zX10_isNow_15 q y0) (fun o => Fm w o.2) := by
  unfold zX10_isNow_15
  refine dA_G (fun _ => ?_)
  exact dA_some h

theorem lm_zX10_isNow (w : dS) (q : dS) (p1 : Int32) (h : Fm w q) : dAll (zX10_isNow q p1) (fun o => Fm w o.2) := by
  unfold zX10_isNow
  refine dA_B (lm_zX10_tells w q p1 0 h) (fun r1 q3 hq3 => ?_)
  refine dA_if (fun _ => ?_) (fun _ => ?_)
  · exact lm_zX10_isNow_15 w q3 1 hq3
  · exact lm_zX10_isNow_15 w q3 0 hq3

theorem lm_zX10_tipsAt (w : dS) (q : dS) (p1 : Int32) (h : Fm w q) : dAll (zX10_tipsAt q p1) (fun o => Fm w o.2) := by
  unfold zX10_tipsAt
  refine dA_V (lm_zX10_setsFloor w q p1 h) (fun q3 hq3 => ?_)
  refine dA_B (lm_zX10_isNow w q3 3 hq3) (fun r4 q6 hq6 => ?_)
  refine dA_G (fun _ => ?_)
  exact dA_some hq6

theorem lm_zX10_at_68 (w : dS) (q : dS) (y0 : Int32) (h : Fm w q) : dAll (zX10_at_68 q y0) (fun o => Fm w o.2) := by
  unfold zX10_at_68
  exact dA_some h

theorem lm_zX10_at (w : dS) (q : dS) (p1 : Int32) (p2 : Int32) (h : Fm w q) : dAll (zX10_at q p1 p2) (fun o => Fm w o.2) := by
  unfold zX10_at
  refine dA_B (lm_zX10_isPlace w q p1 h) (fun r1 q3 hq3 => ?_)
  refine dA_if (fun _ => ?_) (fun _ => ?_)
  · exact dA_some hq3
  · refine dA_if (fun _ => ?_) (fun _ => ?_)
    · refine dA_G (fun _ => ?_)
      refine dA_L (fun v6 e_1 => ?_)
      exact dA_some hq3
    · refine dA_if (fun _ => ?_) (fun _ => ?_)
      · refine dA_G (fun _ => ?_)
        refine dA_L (fun v9 e_2 => ?_)
        exact dA_some hq3
      · refine dA_if (fun _ => ?_) (fun _ => ?_)
        · refine dA_B (lm_zX10_tipsAt w q3 p1 hq3) (fun r11 q13 hq13 => ?_)
          refine dA_if (fun _ => ?_) (fun _ => ?_)
          · exact lm_zX10_at_68 w q13 0 hq13
          · exact lm_zX10_at_68 w q13 1 hq13
        · exact dA_some hq3

theorem lm_zX10_rankBelow_20 (w : dS) (q : dS) (y0 : Int32) (h : Fm w q) : dAll (zX10_rankBelow_20 q y0) (fun o => Fm w o.2) := by
  unfold zX10_rankBelow_20
  exact dA_some h

theorem lm_zX10_rankBelow (w : dS) (q : dS) (p1 : Int32) (h : Fm w q) : dAll (zX10_rankBelow q p1) (fun o => Fm w o.2) := by
  unfold zX10_rankBelow
  refine dA_B (lm_zX10_size w q h) (fun r1 q3 hq3 => ?_)
  refine dA_if (fun _ => ?_) (fun _ => ?_)
  · exact lm_zX10_rankBelow_20 w q3 (-1) hq3
  · refine dA_G (fun _ => ?_)
    refine dA_L (fun v5 e_1 => ?_)
    exact lm_zX10_rankBelow_20 w q3 v5 hq3

theorem lm_zX10_setsTurn (w : dS) (q : dS) (p1 : Int32) (p2 : Int32) (p3 : Int32) (p4 : Int32) (h : Fm w q) : dAll (zX10_setsTurn q p1 p2 p3 p4) (fun o => Fm w o) := by
  unfold zX10_setsTurn
  refine dA_L (fun q1 e_1 => ?_)
  have hq1 : Fm w q1 := by rw [e_1]; exact (fm_r (by decide) h)
  refine dA_L (fun q2 e_2 => ?_)
  have hq2 : Fm w q2 := by rw [e_2]; exact (fm_r (by decide) hq1)
  refine dA_L (fun q3 e_3 => ?_)
  have hq3 : Fm w q3 := by rw [e_3]; exact (fm_r (by decide) hq2)
  refine dA_V (lm_zX10_setsAsked w q3 (-1) (-1) p4 hq3) (fun q6 hq6 => ?_)
  exact dA_some hq6

theorem lm_zX10_paysNow (w : dS) (q : dS) (h : Fm w q) : dAll (zX10_paysNow q) (fun o => Fm w o.2) := by
  unfold zX10_paysNow
  refine dA_B (lm_zX10_tells w q 1 (q.1 12 0) h) (fun r1 q3 hq3 => ?_)
  exact dA_some hq3

theorem lm_zX10_asks_82 (w : dS) (q : dS) (y0 : Int32) (h : Fm w q) : dAll (zX10_asks_82 q y0) (fun o => Fm w o.2) := by
  unfold zX10_asks_82
  exact dA_some h

theorem lm_zX10_asks (w : dS) (q : dS) (p1 : Int32) (p2 : Int32) (h : Fm w q) : dAll (zX10_asks q p1 p2) (fun o => Fm w o.2) := by
  unfold zX10_asks
  refine dA_B (lm_zX10_size w q h) (fun r1 q3 hq3 => ?_)
  refine dA_V dA_tr (fun r4 _ => ?_)
  refine dA_if (fun _ => ?_) (fun _ => ?_)
  · exact dA_some hq3
  · refine dA_B (lm_zX10_rankBelow w q3 p1 hq3) (fun r6 q8 hq8 => ?_)
    refine dA_V (lm_zX10_setsTurn w q8 p1 (q3.1 2 0) r6 (q8.1 2 6) hq8) (fun q11 hq11 => ?_)
    refine dA_if (fun _ => ?_) (fun _ => ?_)
    · refine dA_B (lm_zX10_paysNow w q11 hq11) (fun r13 q15 hq15 => ?_)
      exact dA_some hq15
    · refine dA_if (fun _ => ?_) (fun _ => ?_)
      · refine dA_B (lm_zX10_isNow w q11 2 hq11) (fun r17 q19 hq19 => ?_)
        refine dA_if (fun _ => ?_) (fun _ => ?_)
        · exact lm_zX10_asks_82 w q19 0 hq19
        · exact lm_zX10_asks_82 w q19 1 hq19
      · exact dA_some hq11

theorem lm_zX10_row_146 (w : dS) (k32 : dS → Int32 → Int32 → Int32 → Option (Int32 × dS)) (hk32 : ∀ (y0 : dS) (y1 : Int32) (y2 : Int32) (y3 : Int32), Fm w y0 → dAll (k32 y0 y1 y2 y3) (fun o => Fm w o.2)) (q : dS) (x1 : Int32) (x2 : Int32) (x3 : Int32) (y0 : Int32) (y1 : Int32) (h : Fm w q) : dAll (zX10_row_146 k32 q x1 x2 x3 y0 y1) (fun o => Fm w o.2) := by
  unfold zX10_row_146
  refine dA_L (fun q1 e_1 => ?_)
  have hq1 : Fm w q1 := by rw [e_1]; exact (fm_0 (by decide) h)
  exact hk32 q1 x1 x2 (x3 + 2) hq1

theorem lm_zX10_row_129 (w : dS) (k32 : dS → Int32 → Int32 → Int32 → Option (Int32 × dS)) (hk32 : ∀ (y0 : dS) (y1 : Int32) (y2 : Int32) (y3 : Int32), Fm w y0 → dAll (k32 y0 y1 y2 y3) (fun o => Fm w o.2)) (q : dS) (x1 : Int32) (x3 : Int32) (x4 : Int32) (y0 : Int32) (y1 : Int32) (h : Fm w q) : dAll (zX10_row_129 k32 q x1 x3 x4 y0 y1) (fun o => Fm w o.2) := by
  unfold zX10_row_129
  refine dA_if (fun _ => ?_) (fun _ => ?_)
  · exact lm_zX10_row_146 w k32 hk32 q x1 (y1 + y0) x3 1 (q.1 0 6) h
  · exact lm_zX10_row_146 w k32 hk32 q x1 (y1 + y0) x3 0 (q.1 0 6) h

theorem lm_zX10_row_118 (w : dS) (k32 : dS → Int32 → Int32 → Int32 → Option (Int32 × dS)) (hk32 : ∀ (y0 : dS) (y1 : Int32) (y2 : Int32) (y3 : Int32), Fm w y0 → dAll (k32 y0 y1 y2 y3) (fun o => Fm w o.2)) (q : dS) (x1 : Int32) (x2 : Int32) (x3 : Int32) (x4 : Int32) (h : Fm w q) : dAll (zX10_row_118 k32 q x1 x2 x3 x4) (fun o => Fm w o.2) := by
  unfold zX10_row_118
  refine dA_if (fun _ => ?_) (fun _ => ?_)
  · exact lm_zX10_row_129 w k32 hk32 q x1 x3 x4 0 x2 h
  · exact lm_zX10_row_129 w k32 hk32 q x1 x3 x4 1 x2 h

theorem lm_zX10_bricks (w : dS) (q : dS) (h : Fm w q) : dAll (zX10_bricks q) (fun o => Fm w o.2) := by
  unfold zX10_bricks
  exact dA_some h

theorem lm_zX10_feed_55b (w : dS) (k55 : dS → Int32 → Option (Int32 × dS)) (hk55 : ∀ (y0 : dS) (y1 : Int32), Fm w y0 → dAll (k55 y0 y1) (fun o => Fm w o.2)) (q : dS) (x6 : Int32) (h : Fm w q) : dAll (zX10_feed_55b k55 q x6) (fun o => Fm w o.2) := by
  unfold zX10_feed_55b
  refine dA_if (fun _ => ?_) (fun _ => ?_)
  · refine dA_L (fun q1 e_1 => ?_)
    have hq1 : Fm w q1 := by rw [e_1]; exact (fm_0 (by decide) h)
    exact dA_some hq1
  · refine dA_G (fun _ => ?_)
    refine dA_L (fun v3 e_2 => ?_)
    refine dA_L (fun v4 e_3 => ?_)
    refine dA_G (fun _ => ?_)
    refine dA_L (fun q6 e_4 => ?_)
    have hq6 : Fm w q6 := by rw [e_4]; exact (fm_r (by decide) h)
    exact hk55 q6 (x6 + 1) hq6

theorem lm_zX10_feed_55 (w : dS) (n : Nat) (q : dS) (x6 : Int32) (h : Fm w q) : dAll (zX10_feed_55 n q x6) (fun o => Fm w o.2) := by
  unfold zX10_feed_55
  exact dA_fix (fun (a : dS × Int32) => Fm w a.1) (fun k hk a ha => lm_zX10_feed_55b w  _ (fun q x6 hq => hk (q, x6) hq) a.1 a.2 ha) n _ h

theorem lm_zX10_feed (w : dS) (q : dS) (p1 : Int32) (p2 : Int32) (p3 : Int32) (p4 : Int32) (p5 : Int32) (h : Fm w q) : dAll (zX10_feed q p1 p2 p3 p4 p5) (fun o => Fm w o.2) := by
  unfold zX10_feed
  refine dA_if (fun _ => ?_) (fun _ => ?_)
  · refine dA_L (fun q1 e_1 => ?_)
    have hq1 : Fm w q1 := by rw [e_1]; exact (fm_r (by decide) h)
    refine dA_L (fun q2 e_2 => ?_)
    have hq2 : Fm w q2 := by rw [e_2]; exact (fm_r (by decide) hq1)
    refine dA_L (fun q3 e_3 => ?_)
    have hq3 : Fm w q3 := by rw [e_3]; exact (fm_r (by decide) hq2)
    refine dA_L (fun q4 e_4 => ?_)
    have hq4 : Fm w q4 := by rw [e_4]; exact (fm_r (by decide) hq3)
    refine dA_L (fun q5 e_5 => ?_)
    have hq5 : Fm w q5 := by rw [e_5]; exact (fm_r (by decide) hq4)
    exact lm_zX10_feed_55 w dF q5 0 hq5
  · exact dA_some h

theorem lm_zX10_end (w : dS) (q : dS) (p1 : Int32) (h : Fm w q) : dAll (zX10_end q p1) (fun o => Fm w o.2) := by
  unfold zX10_end
  refine dA_V dA_tr (fun r1 _ => ?_)
  refine dA_if (fun _ => ?_) (fun _ => ?_)
  · exact dA_some h
  · refine dA_L (fun q3 e_1 => ?_)
    have hq3 : Fm w q3 := by rw [e_1]; exact (fm_0 (by decide) h)
    exact dA_some hq3

theorem lm_zX10_wordOf_104 (w : dS) (k5 : dS → Int32 → Int32 → Int32 → Int32 → Option (Int32 × dS)) (hk5 : ∀ (y0 : dS) (y1 : Int32) (y2 : Int32) (y3 : Int32) (y4 : Int32), Fm w y0 → dAll (k5 y0 y1 y2 y3 y4) (fun o => Fm w o.2)) (q : dS) (x1 : Int32) (x2 : Int32) (x3 : Int32) (x4 : Int32) (x5 : Int32) (x6 : Int32) (h : Fm w q) : dAll (zX10_wordOf_104 k5 q x1 x2 x3 x4 x5 x6) (fun o => Fm w o.2) := by
  unfold zX10_wordOf_104
  refine dA_if (fun _ => ?_) (fun _ => ?_)
  · exact hk5 q x1 x2 (x3 + 1) (x4 + (x5 + 1 : Int32)) h
  · exact dA_some h

theorem lm_zX10_wordOf_96 (w : dS) (k5 : dS → Int32 → Int32 → Int32 → Int32 → Option (Int32 × dS)) (hk5 : ∀ (y0 : dS) (y1 : Int32) (y2 : Int32) (y3 : Int32) (y4 : Int32), Fm w y0 → dAll (k5 y0 y1 y2 y3 y4) (fun o => Fm w o.2)) (k57 : dS → Int32 → Int32 → Int32 → Int32 → Int32 → Int32 → Int32 → Option (Int32 × dS)) (hk57 : ∀ (y0 : dS) (y1 : Int32) (y2 : Int32) (y3 : Int32) (y4 : Int32) (y5 : Int32) (y6 : Int32) (y7 : Int32), Fm w y0 → dAll (k57 y0 y1 y2 y3 y4 y5 y6 y7) (fun o => Fm w o.2)) (q : dS) (x1 : Int32) (x2 : Int32) (x3 : Int32) (x4 : Int32) (x5 : Int32) (x7 : Int32) (y0 : Int32) (h : Fm w q) : dAll (zX10_wordOf_96 k5 k57 q x1 x2 x3 x4 x5 x7 y0) (fun o => Fm w o.2) := by
  unfold zX10_wordOf_96
  exact hk57 q x1 x2 x3 x4 x5 y0 (x7 + 1) h

theorem lm_zX10_wordOf_57b (w : dS) (k5 : dS → Int32 → Int32 → Int32 → Int32 → Option (Int32 × dS)) (hk5 : ∀ (y0 : dS) (y1 : Int32) (y2 : Int32) (y3 : Int32) (y4 : Int32), Fm w y0 → dAll (k5 y0 y1 y2 y3 y4) (fun o => Fm w o.2)) (k57 : dS → Int32 → Int32 → Int32 → Int32 → Int32 → Int32 → Int32 → Option (Int32 × dS)) (hk57 : ∀ (y0 : dS) (y1 : Int32) (y2 : Int32) (y3 : Int32) (y4 : Int32) (y5 : Int32) (y6 : Int32) (y7 : Int32), Fm w y0 → dAll (k57 y0 y1 y2 y3 y4 y5 y6 y7) (fun o => Fm w o.2)) (q : dS) (x1 : Int32) (x2 : Int32) (x3 : Int32) (x4 : Int32) (x5 : Int32) (x6 : Int32) (x7 : Int32) (h : Fm w q) : dAll (zX10_wordOf_57b k5 k57 q x1 x2 x3 x4 x5 x6 x7) (fun o => Fm w o.2) := by
  unfold zX10_wordOf_57b
  refine dA_if (fun _ => ?_) (fun _ => ?_)
  · exact lm_zX10_wordOf_104 w k5 hk5 q x1 x2 x3 x4 x5 x6 h
  · refine dA_if (fun _ => ?_) (fun _ => ?_)
    · exact lm_zX10_wordOf_104 w k5 hk5 q x1 x2 x3 x4 x5 x6 h
    · refine dA_G (fun _ => ?_)
      refine dA_L (fun v2 e_1 => ?_)
      refine dA_G (fun _ => ?_)
      refine dA_L (fun v4 e_2 => ?_)
      refine dA_if (fun _ => ?_) (fun _ => ?_)
      · exact lm_zX10_wordOf_96 w k5 hk5 k57 hk57 q x1 x2 x3 x4 x5 x7 1 h
      · exact lm_zX10_wordOf_96 w k5 hk5 k57 hk57 q x1 x2 x3 x4 x5 x7 0 h

theorem lm_zX10_wordOf_57 (w : dS) (k5 : dS → Int32 → Int32 → Int32 → Int32 → Option (Int32 × dS)) (hk5 : ∀ (y0 : dS) (y1 : Int32) (y2 : Int32) (y3 : Int32) (y4 : Int32), Fm w y0 → dAll (k5 y0 y1 y2 y3 y4) (fun o => Fm w o.2)) (n : Nat) (q : dS) (x1 : Int32) (x2 : Int32) (x3 : Int32) (x4 : Int32) (x5 : Int32) (x6 : Int32) (x7 : Int32) (h : Fm w q) : dAll (zX10_wordOf_57 k5 n q x1 x2 x3 x4 x5 x6 x7) (fun o => Fm w o.2) := by
  unfold zX10_wordOf_57
  exact dA_fix (fun (a : dS × Int32 × Int32 × Int32 × Int32 × Int32 × Int32 × Int32) => Fm w a.1) (fun k hk a ha => lm_zX10_wordOf_57b w k5 hk5 _ (fun q x1 x2 x3 x4 x5 x6 x7 hq => hk (q, x1, x2, x3, x4, x5, x6, x7) hq) a.1 a.2.1 a.2.2.1 a.2.2.2.1 a.2.2.2.2.1 a.2.2.2.2.2.1 a.2.2.2.2.2.2.1 a.2.2.2.2.2.2.2 ha) n _ h

theorem lm_zX10_wordOf_52 (w : dS) (k5 : dS → Int32 → Int32 → Int32 → Int32 → Option (Int32 × dS)) (hk5 : ∀ (y0 : dS) (y1 : Int32) (y2 : Int32) (y3 : Int32) (y4 : Int32), Fm w y0 → dAll (k5 y0 y1 y2 y3 y4) (fun o => Fm w o.2)) (q : dS) (x1 : Int32) (x2 : Int32) (x3 : Int32) (x4 : Int32) (x5 : Int32) (y0 : Int32) (h : Fm w q) : dAll (zX10_wordOf_52 k5 q x1 x2 x3 x4 x5 y0) (fun o => Fm w o.2) := by
  unfold zX10_wordOf_52
  exact lm_zX10_wordOf_57 w k5 hk5 dF q x1 x2 x3 x4 x5 y0 0 h

theorem lm_zX10_wordOf_18b (w : dS) (k5 : dS → Int32 → Int32 → Int32 → Int32 → Option (Int32 × dS)) (hk5 : ∀ (y0 : dS) (y1 : Int32) (y2 : Int32) (y3 : Int32) (y4 : Int32), Fm w y0 → dAll (k5 y0 y1 y2 y3 y4) (fun o => Fm w o.2)) (k18 : dS → Int32 → Int32 → Int32 → Int32 → Int32 → Option (Int32 × dS)) (hk18 : ∀ (y0 : dS) (y1 : Int32) (y2 : Int32) (y3 : Int32) (y4 : Int32) (y5 : Int32), Fm w y0 → dAll (k18 y0 y1 y2 y3 y4 y5) (fun o => Fm w o.2)) (q : dS) (x1 : Int32) (x2 : Int32) (x3 : Int32) (x4 : Int32) (x5 : Int32) (h : Fm w q) : dAll (zX10_wordOf_18b k5 k18 q x1 x2 x3 x4 x5) (fun o => Fm w o.2) := by
  unfold zX10_wordOf_18b
  refine dA_G (fun _ => ?_)
  refine dA_L (fun v2 e_1 => ?_)
  refine dA_if (fun _ => ?_) (fun _ => ?_)
  · refine dA_if (fun _ => ?_) (fun _ => ?_)
    · exact lm_zX10_wordOf_52 w k5 hk5 q x1 x2 x3 x4 x5 1 h
    · exact lm_zX10_wordOf_52 w k5 hk5 q x1 x2 x3 x4 x5 0 h
  · exact hk18 q x1 x2 x3 x4 (x5 + 1) h

theorem lm_zX10_wordOf_18 (w : dS) (k5 : dS → Int32 → Int32 → Int32 → Int32 → Option (Int32 × dS)) (hk5 : ∀ (y0 : dS) (y1 : Int32) (y2 : Int32) (y3 : Int32) (y4 : Int32), Fm w y0 → dAll (k5 y0 y1 y2 y3 y4) (fun o => Fm w o.2)) (n : Nat) (q : dS) (x1 : Int32) (x2 : Int32) (x3 : Int32) (x4 : Int32) (x5 : Int32) (h : Fm w q) : dAll (zX10_wordOf_18 k5 n q x1 x2 x3 x4 x5) (fun o => Fm w o.2) := by
  unfold zX10_wordOf_18
  exact dA_fix (fun (a : dS × Int32 × Int32 × Int32 × Int32 × Int32) => Fm w a.1) (fun k hk a ha => lm_zX10_wordOf_18b w k5 hk5 _ (fun q x1 x2 x3 x4 x5 hq => hk (q, x1, x2, x3, x4, x5) hq) a.1 a.2.1 a.2.2.1 a.2.2.2.1 a.2.2.2.2.1 a.2.2.2.2.2 ha) n _ h

theorem lm_zX10_wordOf_5b (w : dS) (k5 : dS → Int32 → Int32 → Int32 → Int32 → Option (Int32 × dS)) (hk5 : ∀ (y0 : dS) (y1 : Int32) (y2 : Int32) (y3 : Int32) (y4 : Int32), Fm w y0 → dAll (k5 y0 y1 y2 y3 y4) (fun o => Fm w o.2)) (q : dS) (x1 : Int32) (x2 : Int32) (x3 : Int32) (x4 : Int32) (h : Fm w q) : dAll (zX10_wordOf_5b k5 q x1 x2 x3 x4) (fun o => Fm w o.2) := by
  unfold zX10_wordOf_5b
  refine dA_if (fun _ => ?_) (fun _ => ?_)
  · exact dA_some h
  · exact lm_zX10_wordOf_18 w k5 hk5 dF q x1 x2 x3 x4 0 h

theorem lm_zX10_wordOf_5 (w : dS) (n : Nat) (q : dS) (x1 : Int32) (x2 : Int32) (x3 : Int32) (x4 : Int32) (h : Fm w q) : dAll (zX10_wordOf_5 n q x1 x2 x3 x4) (fun o => Fm w o.2) := by
  unfold zX10_wordOf_5
  exact dA_fix (fun (a : dS × Int32 × Int32 × Int32 × Int32) => Fm w a.1) (fun k hk a ha => lm_zX10_wordOf_5b w  _ (fun q x1 x2 x3 x4 hq => hk (q, x1, x2, x3, x4) hq) a.1 a.2.1 a.2.2.1 a.2.2.2.1 a.2.2.2.2 ha) n _ h

theorem lm_zX10_wordOf (w : dS) (q : dS) (p1 : Int32) (p2 : Int32) (h : Fm w q) : dAll (zX10_wordOf q p1 p2) (fun o => Fm w o.2) := by
  unfold zX10_wordOf
  exact lm_zX10_wordOf_5 w dF q p1 p2 1 0 h

theorem lm_zX10_splits_247 (w : dS) (k7 : dS → Int32 → Int32 → Option (dS)) (hk7 : ∀ (y0 : dS) (y1 : Int32) (y2 : Int32), Fm w y0 → dAll (k7 y0 y1 y2) (fun o => Fm w o)) (q : dS) (x1 : Int32) (x4 : Int32) (h : Fm w q) : dAll (zX10_splits_247 k7 q x1 x4) (fun o => Fm w o) := by
  unfold zX10_splits_247
  refine dA_L (fun q1 e_1 => ?_)
  have hq1 : Fm w q1 := by rw [e_1]; exact (fm_0 (by decide) h)
  exact hk7 q1 x1 x4 hq1

theorem lm_zX10_splits_240 (w : dS) (k7 : dS → Int32 → Int32 → Option (dS)) (hk7 : ∀ (y0 : dS) (y1 : Int32) (y2 : Int32), Fm w y0 → dAll (k7 y0 y1 y2) (fun o => Fm w o)) (k169 : dS → Int32 → Int32 → Int32 → Int32 → Option (dS)) (hk169 : ∀ (y0 : dS) (y1 : Int32) (y2 : Int32) (y3 : Int32) (y4 : Int32), Fm w y0 → dAll (k169 y0 y1 y2 y3 y4) (fun o => Fm w o)) (q : dS) (x1 : Int32) (x3 : Int32) (x4 : Int32) (x5 : Int32) (y0 : Int32) (y1 : Int32) (h : Fm w q) : dAll (zX10_splits_240 k7 k169 q x1 x3 x4 x5 y0 y1) (fun o => Fm w o) := by
  unfold zX10_splits_240
  refine dA_G (fun _ => ?_)
  refine dA_L (fun q2 e_1 => ?_)
  have hq2 : Fm w q2 := by rw [e_1]; exact (fm_r (by decide) h)
  exact hk169 q2 x1 x3 x4 (x5 + 1) hq2

theorem lm_zX10_splits_169b (w : dS) (k7 : dS → Int32 → Int32 → Option (dS)) (hk7 : ∀ (y0 : dS) (y1 : Int32) (y2 : Int32), Fm w y0 → dAll (k7 y0 y1 y2) (fun o => Fm w o)) (k169 : dS → Int32 → Int32 → Int32 → Int32 → Option (dS)) (hk169 : ∀ (y0 : dS) (y1 : Int32) (y2 : Int32) (y3 : Int32) (y4 : Int32), Fm w y0 → dAll (k169 y0 y1 y2 y3 y4) (fun o => Fm w o)) (q : dS) (x1 : Int32) (x3 : Int32) (x4 : Int32) (x5 : Int32) (h : Fm w q) : dAll (zX10_splits_169b k7 k169 q x1 x3 x4 x5) (fun o => Fm w o) := by
  unfold zX10_splits_169b
  refine dA_if (fun _ => ?_) (fun _ => ?_)
  · exact lm_zX10_splits_247 w k7 hk7 q x1 x4 h
  · refine dA_V dA_tr (fun r1 _ => ?_)
    refine dA_if (fun _ => ?_) (fun _ => ?_)
    · exact lm_zX10_splits_247 w k7 hk7 q x1 x4 h
    · refine dA_G (fun _ => ?_)
      refine dA_L (fun v4 e_1 => ?_)
      refine dA_if (fun _ => ?_) (fun _ => ?_)
      · refine dA_G (fun _ => ?_)
        refine dA_L (fun v6 e_2 => ?_)
        refine dA_G (fun _ => ?_)
        refine dA_L (fun v8 e_3 => ?_)
        exact lm_zX10_splits_240 w k7 hk7 k169 hk169 q x1 x3 x4 x5 (((10 * v6 : Int32) + v8) - 48 : Int32) (q.1 0 18) h
      · refine dA_G (fun _ => ?_)
        refine dA_L (fun v10 e_4 => ?_)
        exact lm_zX10_splits_240 w k7 hk7 k169 hk169 q x1 x3 x4 x5 v10 (q.1 0 18) h

theorem lm_zX10_splits_169 (w : dS) (k7 : dS → Int32 → Int32 → Option (dS)) (hk7 : ∀ (y0 : dS) (y1 : Int32) (y2 : Int32), Fm w y0 → dAll (k7 y0 y1 y2) (fun o => Fm w o)) (n : Nat) (q : dS) (x1 : Int32) (x3 : Int32) (x4 : Int32) (x5 : Int32) (h : Fm w q) : dAll (zX10_splits_169 k7 n q x1 x3 x4 x5) (fun o => Fm w o) := by
  unfold zX10_splits_169
  exact dA_fix (fun (a : dS × Int32 × Int32 × Int32 × Int32) => Fm w a.1) (fun k hk a ha => lm_zX10_splits_169b w k7 hk7 _ (fun q x1 x3 x4 x5 hq => hk (q, x1, x3, x4, x5) hq) a.1 a.2.1 a.2.2.1 a.2.2.2.1 a.2.2.2.2 ha) n _ h

theorem lm_zX10_splits_165 (w : dS) (k7 : dS → Int32 → Int32 → Option (dS)) (hk7 : ∀ (y0 : dS) (y1 : Int32) (y2 : Int32), Fm w y0 → dAll (k7 y0 y1 y2) (fun o => Fm w o)) (q : dS) (x1 : Int32) (x2 : Int32) (x3 : Int32) (x4 : Int32) (y0 : Int32) (y1 : Int32) (h : Fm w q) : dAll (zX10_splits_165 k7 q x1 x2 x3 x4 y0 y1) (fun o => Fm w o) := by
  unfold zX10_splits_165
  refine dA_G (fun _ => ?_)
  refine dA_L (fun q2 e_1 => ?_)
  have hq2 : Fm w q2 := by rw [e_1]; exact (fm_r (by decide) h)
  exact lm_zX10_splits_169 w k7 hk7 dF q2 x1 x3 x4 x2 hq2

theorem lm_zX10_splits_100 (w : dS) (k7 : dS → Int32 → Int32 → Option (dS)) (hk7 : ∀ (y0 : dS) (y1 : Int32) (y2 : Int32), Fm w y0 → dAll (k7 y0 y1 y2) (fun o => Fm w o)) (q : dS) (x1 : Int32) (x2 : Int32) (x3 : Int32) (x4 : Int32) (h : Fm w q) : dAll (zX10_splits_100 k7 q x1 x2 x3 x4) (fun o => Fm w o) := by
  unfold zX10_splits_100
  refine dA_G (fun _ => ?_)
  refine dA_L (fun q2 e_1 => ?_)
  have hq2 : Fm w q2 := by rw [e_1]; exact (fm_r (by decide) h)
  refine dA_G (fun _ => ?_)
  refine dA_L (fun q4 e_2 => ?_)
  have hq4 : Fm w q4 := by rw [e_2]; exact (fm_r (by decide) hq2)
  refine dA_V dA_tr (fun r5 _ => ?_)
  refine dA_if (fun _ => ?_) (fun _ => ?_)
  · refine dA_V dA_tr (fun r7 _ => ?_)
    refine dA_if (fun _ => ?_) (fun _ => ?_)
    · exact lm_zX10_splits_165 w k7 hk7 q4 x1 x2 x3 x4 (100 + (x3 &&& 255 : Int32) : Int32) (q4.1 0 18) hq4
    · exact lm_zX10_splits_165 w k7 hk7 q4 x1 x2 x3 x4 50 (q4.1 0 18) hq4
  · refine dA_B (lm_zX10_wordOf w q4 x2 x4 hq4) (fun r9 q11 hq11 => ?_)
    exact lm_zX10_splits_165 w k7 hk7 q11 x1 x2 x3 x4 r9 (q4.1 0 18) hq11

theorem lm_zX10_splits_75b (w : dS) (k7 : dS → Int32 → Int32 → Option (dS)) (hk7 : ∀ (y0 : dS) (y1 : Int32) (y2 : Int32), Fm w y0 → dAll (k7 y0 y1 y2) (fun o => Fm w o)) (k75 : dS → Int32 → Int32 → Int32 → Int32 → Option (dS)) (hk75 : ∀ (y0 : dS) (y1 : Int32) (y2 : Int32) (y3 : Int32) (y4 : Int32), Fm w y0 → dAll (k75 y0 y1 y2 y3 y4) (fun o => Fm w o)) (q : dS) (x1 : Int32) (x2 : Int32) (x3 : Int32) (x4 : Int32) (h : Fm w q) : dAll (zX10_splits_75b k7 k75 q x1 x2 x3 x4) (fun o => Fm w o) := by
  unfold zX10_splits_75b
  refine dA_if (fun _ => ?_) (fun _ => ?_)
  · exact lm_zX10_splits_100 w k7 hk7 q x1 x2 x3 x4 h
  · refine dA_G (fun _ => ?_)
    refine dA_L (fun v2 e_1 => ?_)
    refine dA_V dA_tr (fun r3 _ => ?_)
    refine dA_if (fun _ => ?_) (fun _ => ?_)
    · exact lm_zX10_splits_100 w k7 hk7 q x1 x2 x3 x4 h
    · exact hk75 q x1 x2 x3 (x4 + 1) h

theorem lm_zX10_splits_75 (w : dS) (k7 : dS → Int32 → Int32 → Option (dS)) (hk7 : ∀ (y0 : dS) (y1 : Int32) (y2 : Int32), Fm w y0 → dAll (k7 y0 y1 y2) (fun o => Fm w o)) (n : Nat) (q : dS) (x1 : Int32) (x2 : Int32) (x3 : Int32) (x4 : Int32) (h : Fm w q) : dAll (zX10_splits_75 k7 n q x1 x2 x3 x4) (fun o => Fm w o) := by
  unfold zX10_splits_75
  exact dA_fix (fun (a : dS × Int32 × Int32 × Int32 × Int32) => Fm w a.1) (fun k hk a ha => lm_zX10_splits_75b w k7 hk7 _ (fun q x1 x2 x3 x4 hq => hk (q, x1, x2, x3, x4) hq) a.1 a.2.1 a.2.2.1 a.2.2.2.1 a.2.2.2.2 ha) n _ h

theorem lm_zX10_splits_68 (w : dS) (k7 : dS → Int32 → Int32 → Option (dS)) (hk7 : ∀ (y0 : dS) (y1 : Int32) (y2 : Int32), Fm w y0 → dAll (k7 y0 y1 y2) (fun o => Fm w o)) (q : dS) (x1 : Int32) (x2 : Int32) (x3 : Int32) (x4 : Int32) (h : Fm w q) : dAll (zX10_splits_68 k7 q x1 x2 x3 x4) (fun o => Fm w o) := by
  unfold zX10_splits_68
  refine dA_V dA_tr (fun r1 _ => ?_)
  refine dA_if (fun _ => ?_) (fun _ => ?_)
  · exact lm_zX10_splits_100 w k7 hk7 q x1 x2 x3 x4 h
  · exact lm_zX10_splits_75 w k7 hk7 dF q x1 x2 x3 x4 h

theorem lm_zX10_splits_43b (w : dS) (k7 : dS → Int32 → Int32 → Option (dS)) (hk7 : ∀ (y0 : dS) (y1 : Int32) (y2 : Int32), Fm w y0 → dAll (k7 y0 y1 y2) (fun o => Fm w o)) (k43 : dS → Int32 → Int32 → Int32 → Int32 → Option (dS)) (hk43 : ∀ (y0 : dS) (y1 : Int32) (y2 : Int32) (y3 : Int32) (y4 : Int32), Fm w y0 → dAll (k43 y0 y1 y2 y3 y4) (fun o => Fm w o)) (q : dS) (x1 : Int32) (x2 : Int32) (x3 : Int32) (x4 : Int32) (h : Fm w q) : dAll (zX10_splits_43b k7 k43 q x1 x2 x3 x4) (fun o => Fm w o) := by
  unfold zX10_splits_43b
  refine dA_if (fun _ => ?_) (fun _ => ?_)
  · exact lm_zX10_splits_68 w k7 hk7 q x1 x2 x3 x4 h
  · refine dA_G (fun _ => ?_)
    refine dA_L (fun v2 e_1 => ?_)
    refine dA_V dA_tr (fun r3 _ => ?_)
    refine dA_if (fun _ => ?_) (fun _ => ?_)
    · exact lm_zX10_splits_68 w k7 hk7 q x1 x2 x3 x4 h
    · exact hk43 q x1 x2 x3 (x4 + 1) h

theorem lm_zX10_splits_43 (w : dS) (k7 : dS → Int32 → Int32 → Option (dS)) (hk7 : ∀ (y0 : dS) (y1 : Int32) (y2 : Int32), Fm w y0 → dAll (k7 y0 y1 y2) (fun o => Fm w o)) (n : Nat) (q : dS) (x1 : Int32) (x2 : Int32) (x3 : Int32) (x4 : Int32) (h : Fm w q) : dAll (zX10_splits_43 k7 n q x1 x2 x3 x4) (fun o => Fm w o) := by
  unfold zX10_splits_43
  exact dA_fix (fun (a : dS × Int32 × Int32 × Int32 × Int32) => Fm w a.1) (fun k hk a ha => lm_zX10_splits_43b w k7 hk7 _ (fun q x1 x2 x3 x4 hq => hk (q, x1, x2, x3, x4) hq) a.1 a.2.1 a.2.2.1 a.2.2.2.1 a.2.2.2.2 ha) n _ h

theorem lm_zX10_splits_7b (w : dS) (k7 : dS → Int32 → Int32 → Option (dS)) (hk7 : ∀ (y0 : dS) (y1 : Int32) (y2 : Int32), Fm w y0 → dAll (k7 y0 y1 y2) (fun o => Fm w o)) (q : dS) (x1 : Int32) (x2 : Int32) (h : Fm w q) : dAll (zX10_splits_7b k7 q x1 x2) (fun o => Fm w o) := by
  unfold zX10_splits_7b
  refine dA_if (fun _ => ?_) (fun _ => ?_)
  · refine dA_G (fun _ => ?_)
    refine dA_L (fun q2 e_1 => ?_)
    have hq2 : Fm w q2 := by rw [e_1]; exact (fm_r (by decide) h)
    refine dA_G (fun _ => ?_)
    refine dA_L (fun q4 e_2 => ?_)
    have hq4 : Fm w q4 := by rw [e_2]; exact (fm_r (by decide) hq2)
    refine dA_G (fun _ => ?_)
    refine dA_L (fun q6 e_3 => ?_)
    have hq6 : Fm w q6 := by rw [e_3]; exact (fm_r (by decide) hq4)
    exact dA_some hq6
  · refine dA_G (fun _ => ?_)
    refine dA_L (fun v8 e_4 => ?_)
    refine dA_if (fun _ => ?_) (fun _ => ?_)
    · exact hk7 q x1 (x2 + 1) h
    · refine dA_V dA_tr (fun r9 _ => ?_)
      refine dA_if (fun _ => ?_) (fun _ => ?_)
      · exact lm_zX10_splits_68 w k7 hk7 q x1 x2 v8 (x2 + 1 : Int32) h
      · exact lm_zX10_splits_43 w k7 hk7 dF q x1 x2 v8 (x2 + 1 : Int32) h

theorem lm_zX10_splits_7 (w : dS) (n : Nat) (q : dS) (x1 : Int32) (x2 : Int32) (h : Fm w q) : dAll (zX10_splits_7 n q x1 x2) (fun o => Fm w o) := by
  unfold zX10_splits_7
  exact dA_fix (fun (a : dS × Int32 × Int32) => Fm w a.1) (fun k hk a ha => lm_zX10_splits_7b w  _ (fun q x1 x2 hq => hk (q, x1, x2) hq) a.1 a.2.1 a.2.2 ha) n _ h

theorem lm_zX10_splits (w : dS) (q : dS) (p1 : Int32) (h : Fm w q) : dAll (zX10_splits q p1) (fun o => Fm w o) := by
  unfold zX10_splits
  refine dA_L (fun q1 e_1 => ?_)
  have hq1 : Fm w q1 := by rw [e_1]; exact (fm_0 (by decide) h)
  exact lm_zX10_splits_7 w dF q1 p1 0 hq1

theorem lm_zX10_fine_13 (w : dS) (q : dS) (y0 : Int32) (h : Fm w q) : dAll (zX10_fine_13 q y0) (fun o => Fm w o.2) := by
  unfold zX10_fine_13
  refine dA_G (fun _ => ?_)
  exact dA_some h

theorem lm_zX10_fine (w : dS) (q : dS) (h : Fm w q) : dAll (zX10_fine q) (fun o => Fm w o.2) := by
  unfold zX10_fine
  refine dA_if (fun _ => ?_) (fun _ => ?_)
  · exact lm_zX10_fine_13 w q 1 h
  · exact lm_zX10_fine_13 w q 0 h

theorem lm_zX10_faults_20 (w : dS) (q : dS) (h : Fm w q) : dAll (zX10_faults_20 q) (fun o => Fm w o) := by
  unfold zX10_faults_20
  exact dA_some h

theorem lm_zX10_faults (w : dS) (q : dS) (h : Fm w q) : dAll (zX10_faults q) (fun o => Fm w o) := by
  unfold zX10_faults
  refine dA_B (lm_zX10_fine w q h) (fun r1 q3 hq3 => ?_)
  refine dA_if (fun _ => ?_) (fun _ => ?_)
  · exact lm_zX10_faults_20 w q3 hq3
  · refine dA_G (fun _ => ?_)
    refine dA_L (fun v5 e_1 => ?_)
    refine dA_L (fun q6 e_2 => ?_)
    have hq6 : Fm w q6 := by rw [e_2]; exact (fm_0 (by decide) hq3)
    exact lm_zX10_faults_20 w q6 hq6

theorem lm_zX10_takes0_40 (w : dS) (q : dS) (x2 : Int32) (h : Fm w q) : dAll (zX10_takes0_40 q x2) (fun o => Fm w o.2) := by
  unfold zX10_takes0_40
  refine dA_G (fun _ => ?_)
  exact dA_some h

theorem lm_zX10_takes0_25 (w : dS) (q : dS) (y0 : Int32) (h : Fm w q) : dAll (zX10_takes0_25 q y0) (fun o => Fm w o.2) := by
  unfold zX10_takes0_25
  refine dA_if (fun _ => ?_) (fun _ => ?_)
  · exact lm_zX10_takes0_40 w q y0 h
  · refine dA_L (fun q1 e_1 => ?_)
    have hq1 : Fm w q1 := by rw [e_1]; exact (fm_0 (by decide) h)
    exact lm_zX10_takes0_40 w q1 y0 hq1

theorem lm_zX10_takes0_24 (w : dS) (q : dS) (h : Fm w q) : dAll (zX10_takes0_24 q) (fun o => Fm w o.2) := by
  unfold zX10_takes0_24
  exact lm_zX10_takes0_25 w q 0 h

theorem lm_zX10_takes0 (w : dS) (q : dS) (p1 : Int32) (h : Fm w q) : dAll (zX10_takes0 q p1) (fun o => Fm w o.2) := by
  unfold zX10_takes0
  refine dA_B (lm_zX10_fine w q h) (fun r1 q3 hq3 => ?_)
  refine dA_if (fun _ => ?_) (fun _ => ?_)
  · exact lm_zX10_takes0_24 w q3 hq3
  · refine dA_G (fun _ => ?_)
    refine dA_L (fun v5 e_1 => ?_)
    refine dA_if (fun _ => ?_) (fun _ => ?_)
    · exact lm_zX10_takes0_25 w q3 1 hq3
    · exact lm_zX10_takes0_24 w q3 hq3

theorem lm_zX10_must_12 (w : dS) (q : dS) (h : Fm w q) : dAll (zX10_must_12 q) (fun o => Fm w o) := by
  unfold zX10_must_12
  exact dA_some h

theorem lm_zX10_must (w : dS) (q : dS) (p1 : Int32) (h : Fm w q) : dAll (zX10_must q p1) (fun o => Fm w o) := by
  unfold zX10_must
  refine dA_B (lm_zX10_takes0 w q p1 h) (fun r1 q3 hq3 => ?_)
  refine dA_if (fun _ => ?_) (fun _ => ?_)
  · refine dA_V (lm_zX10_faults w q3 hq3) (fun q6 hq6 => ?_)
    exact lm_zX10_must_12 w q6 hq6
  · exact lm_zX10_must_12 w q3 hq3

theorem lm_zX10_leaf_40 (w : dS) (q : dS) (h : Fm w q) : dAll (zX10_leaf_40 q) (fun o => Fm w o) := by
  unfold zX10_leaf_40
  exact dA_some h

theorem lm_zX10_leaf_13 (w : dS) (q : dS) (h : Fm w q) : dAll (zX10_leaf_13 q) (fun o => Fm w o) := by
  unfold zX10_leaf_13
  refine dA_L (fun q1 e_1 => ?_)
  have hq1 : Fm w q1 := by rw [e_1]; exact (fm_0 (by decide) h)
  refine dA_B (lm_zX10_fine w q1 hq1) (fun r2 q4 hq4 => ?_)
  refine dA_if (fun _ => ?_) (fun _ => ?_)
  · exact lm_zX10_leaf_40 w q4 hq4
  · refine dA_L (fun q5 e_2 => ?_)
    have hq5 : Fm w q5 := by rw [e_2]; exact (fm_0 (by decide) hq4)
    exact lm_zX10_leaf_40 w q5 hq5

theorem lm_zX10_leaf (w : dS) (q : dS) (h : Fm w q) : dAll (zX10_leaf q) (fun o => Fm w o) := by
  unfold zX10_leaf
  refine dA_if (fun _ => ?_) (fun _ => ?_)
  · refine dA_V (lm_zX10_faults w q h) (fun q3 hq3 => ?_)
    exact lm_zX10_leaf_13 w q3 hq3
  · exact lm_zX10_leaf_13 w q h

theorem lm_zX10_mustNumber_59 (w : dS) (q : dS) (h : Fm w q) : dAll (zX10_mustNumber_59 q) (fun o => Fm w o) := by
  unfold zX10_mustNumber_59
  exact dA_some h

theorem lm_zX10_mustNumber_42 (w : dS) (q : dS) (h : Fm w q) : dAll (zX10_mustNumber_42 q) (fun o => Fm w o) := by
  unfold zX10_mustNumber_42
  refine dA_B (lm_zX10_fine w q h) (fun r1 q3 hq3 => ?_)
  refine dA_if (fun _ => ?_) (fun _ => ?_)
  · exact lm_zX10_mustNumber_59 w q3 hq3
  · refine dA_L (fun q4 e_1 => ?_)
    have hq4 : Fm w q4 := by rw [e_1]; exact (fm_0 (by decide) hq3)
    exact lm_zX10_mustNumber_59 w q4 hq4

theorem lm_zX10_mustNumber_38 (w : dS) (q : dS) (h : Fm w q) : dAll (zX10_mustNumber_38 q) (fun o => Fm w o) := by
  unfold zX10_mustNumber_38
  refine dA_V (lm_zX10_faults w q h) (fun q3 hq3 => ?_)
  exact lm_zX10_mustNumber_42 w q3 hq3

theorem lm_zX10_mustNumber (w : dS) (q : dS) (p1 : Int32) (p2 : Int32) (h : Fm w q) : dAll (zX10_mustNumber q p1 p2) (fun o => Fm w o) := by
  unfold zX10_mustNumber
  refine dA_B (lm_zX10_fine w q h) (fun r1 q3 hq3 => ?_)
  refine dA_if (fun _ => ?_) (fun _ => ?_)
  · exact lm_zX10_mustNumber_42 w q3 hq3
  · refine dA_G (fun _ => ?_)
    refine dA_L (fun v5 e_1 => ?_)
    refine dA_if (fun _ => ?_) (fun _ => ?_)
    · refine dA_G (fun _ => ?_)
      refine dA_L (fun v7 e_2 => ?_)
      refine dA_V dA_tr (fun r8 _ => ?_)
      refine dA_if (fun _ => ?_) (fun _ => ?_)
      · exact lm_zX10_mustNumber_38 w q3 hq3
      · exact lm_zX10_mustNumber_42 w q3 hq3
    · exact lm_zX10_mustNumber_38 w q3 hq3

theorem lm_zX10_readPart_147 (w : dS) (kS : dS → Int32 → Option (dS)) (hkS : ∀ (y0 : dS) (y1 : Int32), Fm w y0 → dAll (kS y0 y1) (fun o => Fm w o)) (q : dS) (h : Fm w q) : dAll (zX10_readPart_147 kS q) (fun o => Fm w o) := by
  unfold zX10_readPart_147
  exact dA_some h

theorem lm_zX10_readPart_143 (w : dS) (kS : dS → Int32 → Option (dS)) (hkS : ∀ (y0 : dS) (y1 : Int32), Fm w y0 → dAll (kS y0 y1) (fun o => Fm w o)) (q : dS) (h : Fm w q) : dAll (zX10_readPart_143 kS q) (fun o => Fm w o) := by
  unfold zX10_readPart_143
  refine dA_V (lm_zX10_faults w q h) (fun q3 hq3 => ?_)
  exact lm_zX10_readPart_147 w kS hkS q3 hq3

theorem lm_zX10_readPart_134 (w : dS) (kS : dS → Int32 → Option (dS)) (hkS : ∀ (y0 : dS) (y1 : Int32), Fm w y0 → dAll (kS y0 y1) (fun o => Fm w o)) (q : dS) (h : Fm w q) : dAll (zX10_readPart_134 kS q) (fun o => Fm w o) := by
  unfold zX10_readPart_134
  refine dA_V (lm_zX10_mustNumber w q 0 5 h) (fun q3 hq3 => ?_)
  exact lm_zX10_readPart_147 w kS hkS q3 hq3

theorem lm_zX10_readPart_111 (w : dS) (kS : dS → Int32 → Option (dS)) (hkS : ∀ (y0 : dS) (y1 : Int32), Fm w y0 → dAll (kS y0 y1) (fun o => Fm w o)) (q : dS) (x2 : Int32) (h : Fm w q) : dAll (zX10_readPart_111 kS q x2) (fun o => Fm w o) := by
  unfold zX10_readPart_111
  refine dA_V (lm_zX10_leaf w q h) (fun q3 hq3 => ?_)
  refine dA_if (fun _ => ?_) (fun _ => ?_)
  · exact lm_zX10_readPart_147 w kS hkS q3 hq3
  · refine dA_if (fun _ => ?_) (fun _ => ?_)
    · exact lm_zX10_readPart_134 w kS hkS q3 hq3
    · refine dA_if (fun _ => ?_) (fun _ => ?_)
      · exact lm_zX10_readPart_134 w kS hkS q3 hq3
      · exact lm_zX10_readPart_147 w kS hkS q3 hq3

theorem lm_zX10_readPart_95 (w : dS) (kS : dS → Int32 → Option (dS)) (hkS : ∀ (y0 : dS) (y1 : Int32), Fm w y0 → dAll (kS y0 y1) (fun o => Fm w o)) (q : dS) (x2 : Int32) (h : Fm w q) : dAll (zX10_readPart_95 kS q x2) (fun o => Fm w o) := by
  unfold zX10_readPart_95
  refine dA_if (fun _ => ?_) (fun _ => ?_)
  · exact lm_zX10_readPart_143 w kS hkS q h
  · refine dA_if (fun _ => ?_) (fun _ => ?_)
    · exact lm_zX10_readPart_143 w kS hkS q h
    · exact lm_zX10_readPart_111 w kS hkS q x2 h

theorem lm_zX10_readPart_37 (w : dS) (kS : dS → Int32 → Option (dS)) (hkS : ∀ (y0 : dS) (y1 : Int32), Fm w y0 → dAll (kS y0 y1) (fun o => Fm w o)) (q : dS) (x1 : Int32) (h : Fm w q) : dAll (zX10_readPart_37 kS q x1) (fun o => Fm w o) := by
  unfold zX10_readPart_37
  refine dA_B (lm_zX10_fine w q h) (fun r1 q3 hq3 => ?_)
  refine dA_if (fun _ => ?_) (fun _ => ?_)
  · exact dA_some hq3
  · refine dA_L (fun q4 e_1 => ?_)
    have hq4 : Fm w q4 := by rw [e_1]; exact (fm_0 (by decide) hq3)
    refine dA_V (hkS q4 (x1 + 1 : Int32) hq4) (fun q7 hq7 => ?_)
    refine dA_V dA_tr (fun r8 _ => ?_)
    refine dA_V (lm_zX10_must w q7 r8 hq7) (fun q12 hq12 => ?_)
    exact lm_zX10_readPart_147 w kS hkS q12 hq12

theorem lm_zX10_readPart (w : dS) (kS : dS → Int32 → Option (dS)) (hkS : ∀ (y0 : dS) (y1 : Int32), Fm w y0 → dAll (kS y0 y1) (fun o => Fm w o)) (q : dS) (p1 : Int32) (h : Fm w q) : dAll (zX10_readPart kS q p1) (fun o => Fm w o) := by
  unfold zX10_readPart
  refine dA_B (lm_zX10_fine w q h) (fun r1 q3 hq3 => ?_)
  refine dA_if (fun _ => ?_) (fun _ => ?_)
  · exact dA_some hq3
  · refine dA_G (fun _ => ?_)
    refine dA_L (fun v5 e_1 => ?_)
    refine dA_V dA_tr (fun r6 _ => ?_)
    refine dA_if (fun _ => ?_) (fun _ => ?_)
    · refine dA_if (fun _ => ?_) (fun _ => ?_)
      · refine dA_V (lm_zX10_faults w q3 hq3) (fun q12 hq12 => ?_)
        exact lm_zX10_readPart_37 w kS hkS q12 p1 hq12
      · exact lm_zX10_readPart_37 w kS hkS q3 p1 hq3
    · refine dA_if (fun _ => ?_) (fun _ => ?_)
      · refine dA_G (fun _ => ?_)
        refine dA_L (fun v9 e_2 => ?_)
        refine dA_if (fun _ => ?_) (fun _ => ?_)
        · exact lm_zX10_readPart_111 w kS hkS q3 v5 hq3
        · exact lm_zX10_readPart_95 w kS hkS q3 v5 hq3
      · exact lm_zX10_readPart_95 w kS hkS q3 v5 hq3

theorem lm_zX10_readTerm_41 (w : dS) (kS : dS → Int32 → Option (dS)) (hkS : ∀ (y0 : dS) (y1 : Int32), Fm w y0 → dAll (kS y0 y1) (fun o => Fm w o)) (k5 : dS → Int32 → Option (dS)) (hk5 : ∀ (y0 : dS) (y1 : Int32), Fm w y0 → dAll (k5 y0 y1) (fun o => Fm w o)) (q : dS) (x1 : Int32) (h : Fm w q) : dAll (zX10_readTerm_41 kS k5 q x1) (fun o => Fm w o) := by
  unfold zX10_readTerm_41
  refine dA_V (lm_zX10_readPart w kS hkS q x1 h) (fun q3 hq3 => ?_)
  exact hk5 q3 x1 hq3

theorem lm_zX10_readTerm_5b (w : dS) (kS : dS → Int32 → Option (dS)) (hkS : ∀ (y0 : dS) (y1 : Int32), Fm w y0 → dAll (kS y0 y1) (fun o => Fm w o)) (k5 : dS → Int32 → Option (dS)) (hk5 : ∀ (y0 : dS) (y1 : Int32), Fm w y0 → dAll (k5 y0 y1) (fun o => Fm w o)) (q : dS) (x1 : Int32) (h : Fm w q) : dAll (zX10_readTerm_5b kS k5 q x1) (fun o => Fm w o) := by
  unfold zX10_readTerm_5b
  refine dA_V dA_tr (fun r1 _ => ?_)
  refine dA_B (lm_zX10_takes0 w q r1 h) (fun r3 q5 hq5 => ?_)
  refine dA_if (fun _ => ?_) (fun _ => ?_)
  · refine dA_V dA_tr (fun r6 _ => ?_)
    refine dA_B (lm_zX10_takes0 w q5 r6 hq5) (fun r8 q10 hq10 => ?_)
    refine dA_if (fun _ => ?_) (fun _ => ?_)
    · refine dA_V dA_tr (fun r11 _ => ?_)
      refine dA_B (lm_zX10_takes0 w q10 r11 hq10) (fun r13 q15 hq15 => ?_)
      refine dA_if (fun _ => ?_) (fun _ => ?_)
      · exact dA_some hq15
      · exact lm_zX10_readTerm_41 w kS hkS k5 hk5 q15 x1 hq15
    · exact lm_zX10_readTerm_41 w kS hkS k5 hk5 q10 x1 hq10
  · exact lm_zX10_readTerm_41 w kS hkS k5 hk5 q5 x1 hq5

theorem lm_zX10_readTerm_5 (w : dS) (kS : dS → Int32 → Option (dS)) (hkS : ∀ (y0 : dS) (y1 : Int32), Fm w y0 → dAll (kS y0 y1) (fun o => Fm w o)) (n : Nat) (q : dS) (x1 : Int32) (h : Fm w q) : dAll (zX10_readTerm_5 kS n q x1) (fun o => Fm w o) := by
  unfold zX10_readTerm_5
  exact dA_fix (fun (a : dS × Int32) => Fm w a.1) (fun k hk a ha => lm_zX10_readTerm_5b w kS hkS _ (fun q x1 hq => hk (q, x1) hq) a.1 a.2 ha) n _ h

theorem lm_zX10_readTerm (w : dS) (kS : dS → Int32 → Option (dS)) (hkS : ∀ (y0 : dS) (y1 : Int32), Fm w y0 → dAll (kS y0 y1) (fun o => Fm w o)) (q : dS) (p1 : Int32) (h : Fm w q) : dAll (zX10_readTerm kS q p1) (fun o => Fm w o) := by
  unfold zX10_readTerm
  refine dA_V (lm_zX10_readPart w kS hkS q p1 h) (fun q3 hq3 => ?_)
  exact lm_zX10_readTerm_5 w kS hkS dF q3 p1 hq3

theorem lm_zX10_readSum_29 (w : dS) (kS : dS → Int32 → Option (dS)) (hkS : ∀ (y0 : dS) (y1 : Int32), Fm w y0 → dAll (kS y0 y1) (fun o => Fm w o)) (k5 : dS → Int32 → Option (dS)) (hk5 : ∀ (y0 : dS) (y1 : Int32), Fm w y0 → dAll (k5 y0 y1) (fun o => Fm w o)) (q : dS) (x1 : Int32) (h : Fm w q) : dAll (zX10_readSum_29 kS k5 q x1) (fun o => Fm w o) := by
  unfold zX10_readSum_29
  refine dA_V (lm_zX10_readTerm w kS hkS q x1 h) (fun q3 hq3 => ?_)
  exact hk5 q3 x1 hq3

theorem lm_zX10_readSum_5b (w : dS) (kS : dS → Int32 → Option (dS)) (hkS : ∀ (y0 : dS) (y1 : Int32), Fm w y0 → dAll (kS y0 y1) (fun o => Fm w o)) (k5 : dS → Int32 → Option (dS)) (hk5 : ∀ (y0 : dS) (y1 : Int32), Fm w y0 → dAll (k5 y0 y1) (fun o => Fm w o)) (q : dS) (x1 : Int32) (h : Fm w q) : dAll (zX10_readSum_5b kS k5 q x1) (fun o => Fm w o) := by
  unfold zX10_readSum_5b
  refine dA_V dA_tr (fun r1 _ => ?_)
  refine dA_B (lm_zX10_takes0 w q r1 h) (fun r3 q5 hq5 => ?_)
  refine dA_if (fun _ => ?_) (fun _ => ?_)
  · refine dA_V dA_tr (fun r6 _ => ?_)
    refine dA_B (lm_zX10_takes0 w q5 r6 hq5) (fun r8 q10 hq10 => ?_)
    refine dA_if (fun _ => ?_) (fun _ => ?_)
    · exact dA_some hq10
    · exact lm_zX10_readSum_29 w kS hkS k5 hk5 q10 x1 hq10
  · exact lm_zX10_readSum_29 w kS hkS k5 hk5 q5 x1 hq5

theorem lm_zX10_readSum_5 (w : dS) (kS : dS → Int32 → Option (dS)) (hkS : ∀ (y0 : dS) (y1 : Int32), Fm w y0 → dAll (kS y0 y1) (fun o => Fm w o)) (n : Nat) (q : dS) (x1 : Int32) (h : Fm w q) : dAll (zX10_readSum_5 kS n q x1) (fun o => Fm w o) := by
  unfold zX10_readSum_5
  exact dA_fix (fun (a : dS × Int32) => Fm w a.1) (fun k hk a ha => lm_zX10_readSum_5b w kS hkS _ (fun q x1 hq => hk (q, x1) hq) a.1 a.2 ha) n _ h

theorem lm_zX10_readSum_o (w : dS) (kS : dS → Int32 → Option (dS)) (hkS : ∀ (y0 : dS) (y1 : Int32), Fm w y0 → dAll (kS y0 y1) (fun o => Fm w o)) (q : dS) (p1 : Int32) (h : Fm w q) : dAll (zX10_readSum_o kS q p1) (fun o => Fm w o) := by
  unfold zX10_readSum_o
  refine dA_V (lm_zX10_readTerm w kS hkS q p1 h) (fun q3 hq3 => ?_)
  exact lm_zX10_readSum_5 w kS hkS dF q3 p1 hq3

theorem lm_zX10_readSum (w : dS) (n : Nat) : ∀ (q : dS) (p1 : Int32) (h : Fm w q), dAll (zX10_readSum n q p1) (fun o => Fm w o) := by
  induction n with
  | zero => intro q p1 h o e; cases e
  | succ n ih => intro q p1 h; exact lm_zX10_readSum_o w (zX10_readSum n) ih q p1 h

theorem lm_zX10_readPlain_133 (w : dS) (kT : dS → Int32 → Option (dS)) (hkT : ∀ (y0 : dS) (y1 : Int32), Fm w y0 → dAll (kT y0 y1) (fun o => Fm w o)) (q : dS) (h : Fm w q) : dAll (zX10_readPlain_133 kT q) (fun o => Fm w o) := by
  unfold zX10_readPlain_133
  exact dA_some h

theorem lm_zX10_readPlain_128 (w : dS) (kT : dS → Int32 → Option (dS)) (hkT : ∀ (y0 : dS) (y1 : Int32), Fm w y0 → dAll (kT y0 y1) (fun o => Fm w o)) (q : dS) (x1 : Int32) (h : Fm w q) : dAll (zX10_readPlain_128 kT q x1) (fun o => Fm w o) := by
  unfold zX10_readPlain_128
  refine dA_V (lm_zX10_readSum w 10 q x1 h) (fun q3 hq3 => ?_)
  exact lm_zX10_readPlain_133 w kT hkT q3 hq3

theorem lm_zX10_readPlain_53 (w : dS) (kT : dS → Int32 → Option (dS)) (hkT : ∀ (y0 : dS) (y1 : Int32), Fm w y0 → dAll (kT y0 y1) (fun o => Fm w o)) (q : dS) (x1 : Int32) (h : Fm w q) : dAll (zX10_readPlain_53 kT q x1) (fun o => Fm w o) := by
  unfold zX10_readPlain_53
  refine dA_B (lm_zX10_fine w q h) (fun r1 q3 hq3 => ?_)
  refine dA_if (fun _ => ?_) (fun _ => ?_)
  · exact dA_some hq3
  · refine dA_L (fun q4 e_1 => ?_)
    have hq4 : Fm w q4 := by rw [e_1]; exact (fm_0 (by decide) hq3)
    refine dA_V (hkT q4 (x1 + 1 : Int32) hq4) (fun q7 hq7 => ?_)
    refine dA_V dA_tr (fun r8 _ => ?_)
    refine dA_V (lm_zX10_must w q7 r8 hq7) (fun q12 hq12 => ?_)
    exact lm_zX10_readPlain_133 w kT hkT q12 hq12

theorem lm_zX10_readPlain_2b (w : dS) (kT : dS → Int32 → Option (dS)) (hkT : ∀ (y0 : dS) (y1 : Int32), Fm w y0 → dAll (kT y0 y1) (fun o => Fm w o)) (k2 : dS → Int32 → Int32 → Option (dS)) (hk2 : ∀ (y0 : dS) (y1 : Int32) (y2 : Int32), Fm w y0 → dAll (k2 y0 y1 y2) (fun o => Fm w o)) (q : dS) (x1 : Int32) (x2 : Int32) (h : Fm w q) : dAll (zX10_readPlain_2b kT k2 q x1 x2) (fun o => Fm w o) := by
  unfold zX10_readPlain_2b
  refine dA_if (fun _ => ?_) (fun _ => ?_)
  · refine dA_B (lm_zX10_fine w q h) (fun r1 q3 hq3 => ?_)
    refine dA_if (fun _ => ?_) (fun _ => ?_)
    · exact dA_some hq3
    · refine dA_G (fun _ => ?_)
      refine dA_L (fun v5 e_1 => ?_)
      refine dA_V dA_tr (fun r6 _ => ?_)
      refine dA_if (fun _ => ?_) (fun _ => ?_)
      · refine dA_if (fun _ => ?_) (fun _ => ?_)
        · refine dA_V (lm_zX10_faults w q3 hq3) (fun q28 hq28 => ?_)
          exact lm_zX10_readPlain_53 w kT hkT q28 x1 hq28
        · exact lm_zX10_readPlain_53 w kT hkT q3 x1 hq3
      · refine dA_V (lm_zX10_readSum w 10 q3 x1 hq3) (fun q10 hq10 => ?_)
        refine dA_V dA_tr (fun r11 _ => ?_)
        refine dA_B (lm_zX10_takes0 w q10 r11 hq10) (fun r13 q15 hq15 => ?_)
        refine dA_if (fun _ => ?_) (fun _ => ?_)
        · refine dA_V dA_tr (fun r16 _ => ?_)
          refine dA_B (lm_zX10_takes0 w q15 r16 hq15) (fun r18 q20 hq20 => ?_)
          refine dA_if (fun _ => ?_) (fun _ => ?_)
          · refine dA_V dA_tr (fun r21 _ => ?_)
            refine dA_V (lm_zX10_must w q20 r21 hq20) (fun q25 hq25 => ?_)
            exact lm_zX10_readPlain_128 w kT hkT q25 x1 hq25
          · exact lm_zX10_readPlain_128 w kT hkT q20 x1 hq20
        · exact lm_zX10_readPlain_128 w kT hkT q15 x1 hq15
  · refine dA_B (lm_zX10_takes0 w q 7 h) (fun r29 q31 hq31 => ?_)
    exact hk2 q31 x1 r29 hq31

theorem lm_zX10_readPlain_2 (w : dS) (kT : dS → Int32 → Option (dS)) (hkT : ∀ (y0 : dS) (y1 : Int32), Fm w y0 → dAll (kT y0 y1) (fun o => Fm w o)) (n : Nat) (q : dS) (x1 : Int32) (x2 : Int32) (h : Fm w q) : dAll (zX10_readPlain_2 kT n q x1 x2) (fun o => Fm w o) := by
  unfold zX10_readPlain_2
  exact dA_fix (fun (a : dS × Int32 × Int32) => Fm w a.1) (fun k hk a ha => lm_zX10_readPlain_2b w kT hkT _ (fun q x1 x2 hq => hk (q, x1, x2) hq) a.1 a.2.1 a.2.2 ha) n _ h

theorem lm_zX10_readPlain (w : dS) (kT : dS → Int32 → Option (dS)) (hkT : ∀ (y0 : dS) (y1 : Int32), Fm w y0 → dAll (kT y0 y1) (fun o => Fm w o)) (q : dS) (p1 : Int32) (h : Fm w q) : dAll (zX10_readPlain kT q p1) (fun o => Fm w o) := by
  unfold zX10_readPlain
  exact lm_zX10_readPlain_2 w kT hkT dF q p1 1 h

theorem lm_zX10_readBoth_5b (w : dS) (kT : dS → Int32 → Option (dS)) (hkT : ∀ (y0 : dS) (y1 : Int32), Fm w y0 → dAll (kT y0 y1) (fun o => Fm w o)) (k5 : dS → Int32 → Option (dS)) (hk5 : ∀ (y0 : dS) (y1 : Int32), Fm w y0 → dAll (k5 y0 y1) (fun o => Fm w o)) (q : dS) (x1 : Int32) (h : Fm w q) : dAll (zX10_readBoth_5b kT k5 q x1) (fun o => Fm w o) := by
  unfold zX10_readBoth_5b
  refine dA_B (lm_zX10_takes0 w q 6 h) (fun r1 q3 hq3 => ?_)
  refine dA_if (fun _ => ?_) (fun _ => ?_)
  · exact dA_some hq3
  · refine dA_V (lm_zX10_readPlain w kT hkT q3 x1 hq3) (fun q6 hq6 => ?_)
    exact hk5 q6 x1 hq6

theorem lm_zX10_readBoth_5 (w : dS) (kT : dS → Int32 → Option (dS)) (hkT : ∀ (y0 : dS) (y1 : Int32), Fm w y0 → dAll (kT y0 y1) (fun o => Fm w o)) (n : Nat) (q : dS) (x1 : Int32) (h : Fm w q) : dAll (zX10_readBoth_5 kT n q x1) (fun o => Fm w o) := by
  unfold zX10_readBoth_5
  exact dA_fix (fun (a : dS × Int32) => Fm w a.1) (fun k hk a ha => lm_zX10_readBoth_5b w kT hkT _ (fun q x1 hq => hk (q, x1) hq) a.1 a.2 ha) n _ h

theorem lm_zX10_readBoth (w : dS) (kT : dS → Int32 → Option (dS)) (hkT : ∀ (y0 : dS) (y1 : Int32), Fm w y0 → dAll (kT y0 y1) (fun o => Fm w o)) (q : dS) (p1 : Int32) (h : Fm w q) : dAll (zX10_readBoth kT q p1) (fun o => Fm w o) := by
  unfold zX10_readBoth
  refine dA_V (lm_zX10_readPlain w kT hkT q p1 h) (fun q3 hq3 => ?_)
  exact lm_zX10_readBoth_5 w kT hkT dF q3 p1 hq3

theorem lm_zX10_readTest_5b (w : dS) (kT : dS → Int32 → Option (dS)) (hkT : ∀ (y0 : dS) (y1 : Int32), Fm w y0 → dAll (kT y0 y1) (fun o => Fm w o)) (k5 : dS → Int32 → Option (dS)) (hk5 : ∀ (y0 : dS) (y1 : Int32), Fm w y0 → dAll (k5 y0 y1) (fun o => Fm w o)) (q : dS) (x1 : Int32) (h : Fm w q) : dAll (zX10_readTest_5b kT k5 q x1) (fun o => Fm w o) := by
  unfold zX10_readTest_5b
  refine dA_B (lm_zX10_takes0 w q 5 h) (fun r1 q3 hq3 => ?_)
  refine dA_if (fun _ => ?_) (fun _ => ?_)
  · exact dA_some hq3
  · refine dA_V (lm_zX10_readBoth w kT hkT q3 x1 hq3) (fun q6 hq6 => ?_)
    exact hk5 q6 x1 hq6

theorem lm_zX10_readTest_5 (w : dS) (kT : dS → Int32 → Option (dS)) (hkT : ∀ (y0 : dS) (y1 : Int32), Fm w y0 → dAll (kT y0 y1) (fun o => Fm w o)) (n : Nat) (q : dS) (x1 : Int32) (h : Fm w q) : dAll (zX10_readTest_5 kT n q x1) (fun o => Fm w o) := by
  unfold zX10_readTest_5
  exact dA_fix (fun (a : dS × Int32) => Fm w a.1) (fun k hk a ha => lm_zX10_readTest_5b w kT hkT _ (fun q x1 hq => hk (q, x1) hq) a.1 a.2 ha) n _ h

theorem lm_zX10_readTest_o (w : dS) (kT : dS → Int32 → Option (dS)) (hkT : ∀ (y0 : dS) (y1 : Int32), Fm w y0 → dAll (kT y0 y1) (fun o => Fm w o)) (q : dS) (p1 : Int32) (h : Fm w q) : dAll (zX10_readTest_o kT q p1) (fun o => Fm w o) := by
  unfold zX10_readTest_o
  refine dA_V (lm_zX10_readBoth w kT hkT q p1 h) (fun q3 hq3 => ?_)
  exact lm_zX10_readTest_5 w kT hkT dF q3 p1 hq3

theorem lm_zX10_readTest (w : dS) (n : Nat) : ∀ (q : dS) (p1 : Int32) (h : Fm w q), dAll (zX10_readTest n q p1) (fun o => Fm w o) := by
  induction n with
  | zero => intro q p1 h o e; cases e
  | succ n ih => intro q p1 h; exact lm_zX10_readTest_o w (zX10_readTest n) ih q p1 h

theorem lm_zX10_readClause_42 (w : dS) (q : dS) (h : Fm w q) : dAll (zX10_readClause_42 q) (fun o => Fm w o) := by
  unfold zX10_readClause_42
  exact dA_some h

theorem lm_zX10_readClause_29 (w : dS) (q : dS) (h : Fm w q) : dAll (zX10_readClause_29 q) (fun o => Fm w o) := by
  unfold zX10_readClause_29
  refine dA_B (lm_zX10_takes0 w q 4 h) (fun r1 q3 hq3 => ?_)
  refine dA_if (fun _ => ?_) (fun _ => ?_)
  · exact lm_zX10_readClause_42 w q3 hq3
  · refine dA_V (lm_zX10_readTest w 10 q3 0 hq3) (fun q6 hq6 => ?_)
    exact lm_zX10_readClause_42 w q6 hq6

theorem lm_zX10_readClause (w : dS) (q : dS) (h : Fm w q) : dAll (zX10_readClause q) (fun o => Fm w o) := by
  unfold zX10_readClause
  refine dA_B (lm_zX10_takes0 w q 1 h) (fun r1 q3 hq3 => ?_)
  refine dA_if (fun _ => ?_) (fun _ => ?_)
  · refine dA_B (lm_zX10_takes0 w q3 2 hq3) (fun r4 q6 hq6 => ?_)
    refine dA_if (fun _ => ?_) (fun _ => ?_)
    · refine dA_V (lm_zX10_must w q6 3 hq6) (fun q9 hq9 => ?_)
      exact lm_zX10_readClause_29 w q9 hq9
    · exact lm_zX10_readClause_29 w q6 hq6
  · refine dA_V (lm_zX10_readSum w 10 q3 0 hq3) (fun q12 hq12 => ?_)
    exact lm_zX10_readClause_29 w q12 hq12

theorem lm_zX10_readOrder_70 (w : dS) (q : dS) (h : Fm w q) : dAll (zX10_readOrder_70 q) (fun o => Fm w o) := by
  unfold zX10_readOrder_70
  exact dA_some h

theorem lm_zX10_readOrder_57 (w : dS) (q : dS) (h : Fm w q) : dAll (zX10_readOrder_57 q) (fun o => Fm w o) := by
  unfold zX10_readOrder_57
  refine dA_B (lm_zX10_takes0 w q 4 h) (fun r1 q3 hq3 => ?_)
  refine dA_if (fun _ => ?_) (fun _ => ?_)
  · exact lm_zX10_readOrder_70 w q3 hq3
  · refine dA_V (lm_zX10_readTest w 10 q3 0 hq3) (fun q6 hq6 => ?_)
    exact lm_zX10_readOrder_70 w q6 hq6

theorem lm_zX10_readOrder_41 (w : dS) (q : dS) (h : Fm w q) : dAll (zX10_readOrder_41 q) (fun o => Fm w o) := by
  unfold zX10_readOrder_41
  refine dA_B (lm_zX10_takes0 w q 26 h) (fun r1 q3 hq3 => ?_)
  refine dA_if (fun _ => ?_) (fun _ => ?_)
  · exact lm_zX10_readOrder_57 w q3 hq3
  · refine dA_V (lm_zX10_mustNumber w q3 1 20 hq3) (fun q6 hq6 => ?_)
    exact lm_zX10_readOrder_57 w q6 hq6

theorem lm_zX10_readOrder_27 (w : dS) (q : dS) (h : Fm w q) : dAll (zX10_readOrder_27 q) (fun o => Fm w o) := by
  unfold zX10_readOrder_27
  refine dA_V (lm_zX10_readSum w 10 q 0 h) (fun q3 hq3 => ?_)
  exact lm_zX10_readOrder_41 w q3 hq3

theorem lm_zX10_readOrder (w : dS) (q : dS) (h : Fm w q) : dAll (zX10_readOrder q) (fun o => Fm w o) := by
  unfold zX10_readOrder
  refine dA_B (lm_zX10_takes0 w q 22 h) (fun r1 q3 hq3 => ?_)
  refine dA_if (fun _ => ?_) (fun _ => ?_)
  · refine dA_B (lm_zX10_takes0 w q3 23 hq3) (fun r4 q6 hq6 => ?_)
    refine dA_if (fun _ => ?_) (fun _ => ?_)
    · refine dA_B (lm_zX10_takes0 w q6 24 hq6) (fun r7 q9 hq9 => ?_)
      refine dA_if (fun _ => ?_) (fun _ => ?_)
      · refine dA_V (lm_zX10_must w q9 25 hq9) (fun q12 hq12 => ?_)
        exact lm_zX10_readOrder_41 w q12 hq12
      · exact lm_zX10_readOrder_27 w q9 hq9
    · exact lm_zX10_readOrder_27 w q6 hq6
  · exact lm_zX10_readOrder_27 w q3 hq3

theorem lm_zX10_readOne_18 (w : dS) (q : dS) (h : Fm w q) : dAll (zX10_readOne_18 q) (fun o => Fm w o) := by
  unfold zX10_readOne_18
  exact dA_some h

theorem lm_zX10_readOne (w : dS) (q : dS) (h : Fm w q) : dAll (zX10_readOne q) (fun o => Fm w o) := by
  unfold zX10_readOne
  refine dA_if (fun _ => ?_) (fun _ => ?_)
  · refine dA_V (lm_zX10_readClause w q h) (fun q3 hq3 => ?_)
    exact lm_zX10_readOne_18 w q3 hq3
  · refine dA_V (lm_zX10_readOrder w q h) (fun q6 hq6 => ?_)
    exact lm_zX10_readOne_18 w q6 hq6

theorem lm_zX10_reads_95 (w : dS) (q : dS) (h : Fm w q) : dAll (zX10_reads_95 q) (fun o => Fm w o.2) := by
  unfold zX10_reads_95
  refine dA_L (fun q1 e_1 => ?_)
  have hq1 : Fm w q1 := by rw [e_1]; exact (fm_0 (by decide) h)
  refine dA_B (lm_zX10_fine w q1 hq1) (fun r2 q4 hq4 => ?_)
  refine dA_G (fun _ => ?_)
  exact dA_some hq4

theorem lm_zX10_reads_67 (w : dS) (k34 : dS → Int32 → Option (Int32 × dS)) (hk34 : ∀ (y0 : dS) (y1 : Int32), Fm w y0 → dAll (k34 y0 y1) (fun o => Fm w o.2)) (q : dS) (x1 : Int32) (h : Fm w q) : dAll (zX10_reads_67 k34 q x1) (fun o => Fm w o.2) := by
  unfold zX10_reads_67
  exact hk34 q (x1 + 1) h

theorem lm_zX10_reads_56 (w : dS) (k34 : dS → Int32 → Option (Int32 × dS)) (hk34 : ∀ (y0 : dS) (y1 : Int32), Fm w y0 → dAll (k34 y0 y1) (fun o => Fm w o.2)) (q : dS) (x1 : Int32) (h : Fm w q) : dAll (zX10_reads_56 k34 q x1) (fun o => Fm w o.2) := by
  unfold zX10_reads_56
  refine dA_B (lm_zX10_fine w q h) (fun r1 q3 hq3 => ?_)
  refine dA_if (fun _ => ?_) (fun _ => ?_)
  · exact lm_zX10_reads_67 w k34 hk34 q3 x1 hq3
  · refine dA_V (lm_zX10_readOne w q3 hq3) (fun q6 hq6 => ?_)
    exact lm_zX10_reads_67 w k34 hk34 q6 x1 hq6

theorem lm_zX10_reads_34b (w : dS) (k34 : dS → Int32 → Option (Int32 × dS)) (hk34 : ∀ (y0 : dS) (y1 : Int32), Fm w y0 → dAll (k34 y0 y1) (fun o => Fm w o.2)) (q : dS) (x1 : Int32) (h : Fm w q) : dAll (zX10_reads_34b k34 q x1) (fun o => Fm w o.2) := by
  unfold zX10_reads_34b
  refine dA_V dA_tr (fun r1 _ => ?_)
  refine dA_B (lm_zX10_takes0 w q r1 h) (fun r3 q5 hq5 => ?_)
  refine dA_if (fun _ => ?_) (fun _ => ?_)
  · refine dA_B (lm_zX10_fine w q5 hq5) (fun r6 q8 hq8 => ?_)
    refine dA_if (fun _ => ?_) (fun _ => ?_)
    · exact lm_zX10_reads_95 w q8 hq8
    · refine dA_if (fun _ => ?_) (fun _ => ?_)
      · exact lm_zX10_reads_95 w q8 hq8
      · refine dA_V (lm_zX10_faults w q8 hq8) (fun q11 hq11 => ?_)
        exact lm_zX10_reads_95 w q11 hq11
  · refine dA_if (fun _ => ?_) (fun _ => ?_)
    · refine dA_V (lm_zX10_faults w q5 hq5) (fun q14 hq14 => ?_)
      exact lm_zX10_reads_56 w k34 hk34 q14 x1 hq14
    · exact lm_zX10_reads_56 w k34 hk34 q5 x1 hq5

theorem lm_zX10_reads_34 (w : dS) (n : Nat) (q : dS) (x1 : Int32) (h : Fm w q) : dAll (zX10_reads_34 n q x1) (fun o => Fm w o.2) := by
  unfold zX10_reads_34
  exact dA_fix (fun (a : dS × Int32) => Fm w a.1) (fun k hk a ha => lm_zX10_reads_34b w  _ (fun q x1 hq => hk (q, x1) hq) a.1 a.2 ha) n _ h

theorem lm_zX10_reads (w : dS) (q : dS) (h : Fm w q) : dAll (zX10_reads q) (fun o => Fm w o.2) := by
  unfold zX10_reads
  refine dA_V (lm_zX10_splits w q (q.1 0 13) h) (fun q3 hq3 => ?_)
  refine dA_L (fun q4 e_1 => ?_)
  have hq4 : Fm w q4 := by rw [e_1]; exact (fm_0 (by decide) hq3)
  refine dA_L (fun q5 e_2 => ?_)
  have hq5 : Fm w q5 := by rw [e_2]; exact (fm_0 (by decide) hq4)
  refine dA_L (fun q6 e_3 => ?_)
  have hq6 : Fm w q6 := by rw [e_3]; exact (fm_0 (by decide) hq5)
  refine dA_L (fun q7 e_4 => ?_)
  have hq7 : Fm w q7 := by rw [e_4]; exact (fm_0 (by decide) hq6)
  refine dA_V (lm_zX10_readOne w q7 hq7) (fun q10 hq10 => ?_)
  exact lm_zX10_reads_34 w dF q10 1 hq10

theorem lm_zX10_readsAs_32 (w : dS) (q : dS) (y0 : Int32) (h : Fm w q) : dAll (zX10_readsAs_32 q y0) (fun o => Fm w o.2) := by
  unfold zX10_readsAs_32
  refine dA_L (fun q1 e_1 => ?_)
  have hq1 : Fm w q1 := by rw [e_1]; exact (fm_0 (by decide) h)
  refine dA_B (lm_zX10_reads w q1 hq1) (fun r2 q4 hq4 => ?_)
  refine dA_G (fun _ => ?_)
  exact dA_some hq4

theorem lm_zX10_readsAs_17 (w : dS) (q : dS) (x1 : Int32) (y0 : Int32) (h : Fm w q) : dAll (zX10_readsAs_17 q x1 y0) (fun o => Fm w o.2) := by
  unfold zX10_readsAs_17
  refine dA_L (fun q1 e_1 => ?_)
  have hq1 : Fm w q1 := by rw [e_1]; exact (fm_0 (by decide) h)
  refine dA_if (fun _ => ?_) (fun _ => ?_)
  · exact lm_zX10_readsAs_32 w q1 16 hq1
  · exact lm_zX10_readsAs_32 w q1 21 hq1

theorem lm_zX10_readsAs (w : dS) (q : dS) (p1 : Int32) (h : Fm w q) : dAll (zX10_readsAs q p1) (fun o => Fm w o.2) := by
  unfold zX10_readsAs
  refine dA_G (fun _ => ?_)
  refine dA_L (fun q2 e_1 => ?_)
  have hq2 : Fm w q2 := by rw [e_1]; exact (fm_0 (by decide) h)
  refine dA_if (fun _ => ?_) (fun _ => ?_)
  · exact lm_zX10_readsAs_17 w q2 p1 8 hq2
  · exact lm_zX10_readsAs_17 w q2 p1 15 hq2

theorem lm_zX10_fault (w : dS) (q : dS) (h : Fm w q) : dAll (zX10_fault q) (fun o => Fm w o.2) := by
  unfold zX10_fault
  exact dA_some h

theorem lm_zX10_isLaw (w : dS) (q : dS) (p1 : Int32) (h : Fm w q) : dAll (zX10_isLaw q p1) (fun o => Fm w o.2) := by
  unfold zX10_isLaw
  refine dA_V dA_tr (fun r1 _ => ?_)
  refine dA_G (fun _ => ?_)
  exact dA_some h

theorem lm_zX10_canTurn_46 (w : dS) (q : dS) (y0 : Int32) (h : Fm w q) : dAll (zX10_canTurn_46 q y0) (fun o => Fm w o.2) := by
  unfold zX10_canTurn_46
  refine dA_G (fun _ => ?_)
  exact dA_some h

theorem lm_zX10_canTurn (w : dS) (q : dS) (p1 : Int32) (h : Fm w q) : dAll (zX10_canTurn q p1) (fun o => Fm w o.2) := by
  unfold zX10_canTurn
  refine dA_B (lm_zX10_size w q h) (fun r1 q3 hq3 => ?_)
  refine dA_if (fun _ => ?_) (fun _ => ?_)
  · refine dA_B (lm_zX10_rankBelow w q3 p1 hq3) (fun r4 q6 hq6 => ?_)
    refine dA_V (lm_zX10_setsTurn w q6 p1 (q3.1 2 0) r4 (q6.1 2 6) hq6) (fun q9 hq9 => ?_)
    refine dA_B (lm_zX10_isNow w q9 2 hq9) (fun r10 q12 hq12 => ?_)
    refine dA_if (fun _ => ?_) (fun _ => ?_)
    · exact lm_zX10_canTurn_46 w q12 1 hq12
    · exact lm_zX10_canTurn_46 w q12 0 hq12
  · exact dA_some hq3

theorem lm_zX10_yearPasses_95 (w : dS) (k31 : dS → Int32 → Int32 → Option (Int32 × dS)) (hk31 : ∀ (y0 : dS) (y1 : Int32) (y2 : Int32), Fm w y0 → dAll (k31 y0 y1 y2) (fun o => Fm w o.2)) (q : dS) (x2 : Int32) (y0 : Int32) (y1 : Int32) (h : Fm w q) : dAll (zX10_yearPasses_95 k31 q x2 y0 y1) (fun o => Fm w o.2) := by
  unfold zX10_yearPasses_95
  exact hk31 q (y1 + y0) (x2 + 1) h

theorem lm_zX10_goodOr_17 (w : dS) (q : dS) (y0 : Int32) (h : Fm w q) : dAll (zX10_goodOr_17 q y0) (fun o => Fm w o.2) := by
  unfold zX10_goodOr_17
  exact dA_some h

theorem lm_zX10_goodOr (w : dS) (q : dS) (p1 : Int32) (h : Fm w q) : dAll (zX10_goodOr q p1) (fun o => Fm w o.2) := by
  unfold zX10_goodOr
  refine dA_if (fun _ => ?_) (fun _ => ?_)
  · refine dA_B (lm_zX10_good w q p1 h) (fun r1 q3 hq3 => ?_)
    exact lm_zX10_goodOr_17 w q3 r1 hq3
  · refine dA_B (lm_zX10_refuses w q p1 h) (fun r4 q6 hq6 => ?_)
    exact lm_zX10_goodOr_17 w q6 r4 hq6

theorem lm_zX10_numberOf_50 (w : dS) (k4 : dS → Int32 → Int32 → Option (Int32 × dS)) (hk4 : ∀ (y0 : dS) (y1 : Int32) (y2 : Int32), Fm w y0 → dAll (k4 y0 y1 y2) (fun o => Fm w o.2)) (k19 : dS → Int32 → Int32 → Int32 → Int32 → Option (Int32 × dS)) (hk19 : ∀ (y0 : dS) (y1 : Int32) (y2 : Int32) (y3 : Int32) (y4 : Int32), Fm w y0 → dAll (k19 y0 y1 y2 y3 y4) (fun o => Fm w o.2)) (q : dS) (x1 : Int32) (x2 : Int32) (x4 : Int32) (y0 : Int32) (y1 : Int32) (h : Fm w q) : dAll (zX10_numberOf_50 k4 k19 q x1 x2 x4 y0 y1) (fun o => Fm w o.2) := by
  unfold zX10_numberOf_50
  exact hk19 q x1 x2 (y1 + y0) (x4 + 1) h

theorem lm_zX10_numberOf_19b (w : dS) (k4 : dS → Int32 → Int32 → Option (Int32 × dS)) (hk4 : ∀ (y0 : dS) (y1 : Int32) (y2 : Int32), Fm w y0 → dAll (k4 y0 y1 y2) (fun o => Fm w o.2)) (k19 : dS → Int32 → Int32 → Int32 → Int32 → Option (Int32 × dS)) (hk19 : ∀ (y0 : dS) (y1 : Int32) (y2 : Int32) (y3 : Int32) (y4 : Int32), Fm w y0 → dAll (k19 y0 y1 y2 y3 y4) (fun o => Fm w o.2)) (q : dS) (x1 : Int32) (x2 : Int32) (x3 : Int32) (x4 : Int32) (h : Fm w q) : dAll (zX10_numberOf_19b k4 k19 q x1 x2 x3 x4) (fun o => Fm w o.2) := by
  unfold zX10_numberOf_19b
  refine dA_B (lm_zX10_size w q h) (fun r1 q3 hq3 => ?_)
  refine dA_if (fun _ => ?_) (fun _ => ?_)
  · refine dA_B (lm_zX10_size w q3 hq3) (fun r4 q6 hq6 => ?_)
    exact hk4 q6 ((x1 * (r4 - x2)) + x3) (x2 + 1) hq6
  · refine dA_G (fun _ => ?_)
    refine dA_L (fun v8 e_1 => ?_)
    refine dA_G (fun _ => ?_)
    refine dA_L (fun v10 e_2 => ?_)
    refine dA_if (fun _ => ?_) (fun _ => ?_)
    · exact lm_zX10_numberOf_50 w k4 hk4 k19 hk19 q3 x1 x2 x4 0 x3 hq3
    · exact lm_zX10_numberOf_50 w k4 hk4 k19 hk19 q3 x1 x2 x4 1 x3 hq3

theorem lm_zX10_numberOf_19 (w : dS) (k4 : dS → Int32 → Int32 → Option (Int32 × dS)) (hk4 : ∀ (y0 : dS) (y1 : Int32) (y2 : Int32), Fm w y0 → dAll (k4 y0 y1 y2) (fun o => Fm w o.2)) (n : Nat) (q : dS) (x1 : Int32) (x2 : Int32) (x3 : Int32) (x4 : Int32) (h : Fm w q) : dAll (zX10_numberOf_19 k4 n q x1 x2 x3 x4) (fun o => Fm w o.2) := by
  unfold zX10_numberOf_19
  exact dA_fix (fun (a : dS × Int32 × Int32 × Int32 × Int32) => Fm w a.1) (fun k hk a ha => lm_zX10_numberOf_19b w k4 hk4 _ (fun q x1 x2 x3 x4 hq => hk (q, x1, x2, x3, x4) hq) a.1 a.2.1 a.2.2.1 a.2.2.2.1 a.2.2.2.2 ha) n _ h

theorem lm_zX10_numberOf_4b (w : dS) (k4 : dS → Int32 → Int32 → Option (Int32 × dS)) (hk4 : ∀ (y0 : dS) (y1 : Int32) (y2 : Int32), Fm w y0 → dAll (k4 y0 y1 y2) (fun o => Fm w o.2)) (q : dS) (x1 : Int32) (x2 : Int32) (h : Fm w q) : dAll (zX10_numberOf_4b k4 q x1 x2) (fun o => Fm w o.2) := by
  unfold zX10_numberOf_4b
  refine dA_B (lm_zX10_size w q h) (fun r1 q3 hq3 => ?_)
  refine dA_if (fun _ => ?_) (fun _ => ?_)
  · exact dA_some hq3
  · exact lm_zX10_numberOf_19 w k4 hk4 dF q3 x1 x2 0 (x2 + 1 : Int32) hq3

theorem lm_zX10_numberOf_4 (w : dS) (n : Nat) (q : dS) (x1 : Int32) (x2 : Int32) (h : Fm w q) : dAll (zX10_numberOf_4 n q x1 x2) (fun o => Fm w o.2) := by
  unfold zX10_numberOf_4
  exact dA_fix (fun (a : dS × Int32 × Int32) => Fm w a.1) (fun k hk a ha => lm_zX10_numberOf_4b w  _ (fun q x1 x2 hq => hk (q, x1, x2) hq) a.1 a.2.1 a.2.2 ha) n _ h

theorem lm_zX10_numberOf (w : dS) (q : dS) (h : Fm w q) : dAll (zX10_numberOf q) (fun o => Fm w o.2) := by
  unfold zX10_numberOf
  exact lm_zX10_numberOf_4 w dF q 0 0 h

theorem lm_zX10_laysOrder_74 (w : dS) (k7 : dS → Int32 → Int32 → Int32 → Int32 → Option (dS)) (hk7 : ∀ (y0 : dS) (y1 : Int32) (y2 : Int32) (y3 : Int32) (y4 : Int32), Fm w y0 → dAll (k7 y0 y1 y2 y3 y4) (fun o => Fm w o)) (k44 : dS → Int32 → Int32 → Int32 → Int32 → Int32 → Int32 → Option (dS)) (hk44 : ∀ (y0 : dS) (y1 : Int32) (y2 : Int32) (y3 : Int32) (y4 : Int32) (y5 : Int32) (y6 : Int32), Fm w y0 → dAll (k44 y0 y1 y2 y3 y4 y5 y6) (fun o => Fm w o)) (q : dS) (x1 : Int32) (x2 : Int32) (x3 : Int32) (x4 : Int32) (x7 : Int32) (y0 : Int32) (y1 : Int32) (h : Fm w q) : dAll (zX10_laysOrder_74 k7 k44 q x1 x2 x3 x4 x7 y0 y1) (fun o => Fm w o) := by
  unfold zX10_laysOrder_74
  exact hk44 q x1 x2 x3 x4 (y1 - y0) (x7 + 1) h

theorem lm_zX10_laysOrder_58 (w : dS) (k7 : dS → Int32 → Int32 → Int32 → Int32 → Option (dS)) (hk7 : ∀ (y0 : dS) (y1 : Int32) (y2 : Int32) (y3 : Int32) (y4 : Int32), Fm w y0 → dAll (k7 y0 y1 y2 y3 y4) (fun o => Fm w o)) (k44 : dS → Int32 → Int32 → Int32 → Int32 → Int32 → Int32 → Option (dS)) (hk44 : ∀ (y0 : dS) (y1 : Int32) (y2 : Int32) (y3 : Int32) (y4 : Int32) (y5 : Int32) (y6 : Int32), Fm w y0 → dAll (k44 y0 y1 y2 y3 y4 y5 y6) (fun o => Fm w o)) (q : dS) (x1 : Int32) (x2 : Int32) (x3 : Int32) (x4 : Int32) (x6 : Int32) (x7 : Int32) (h : Fm w q) : dAll (zX10_laysOrder_58 k7 k44 q x1 x2 x3 x4 x6 x7) (fun o => Fm w o) := by
  unfold zX10_laysOrder_58
  refine dA_V dA_tr (fun r1 _ => ?_)
  refine dA_if (fun _ => ?_) (fun _ => ?_)
  · exact lm_zX10_laysOrder_74 w k7 hk7 k44 hk44 q x1 x2 x3 x4 x7 1 x6 h
  · exact lm_zX10_laysOrder_74 w k7 hk7 k44 hk44 q x1 x2 x3 x4 x7 0 x6 h

theorem lm_zX10_laysOrder_44b (w : dS) (k7 : dS → Int32 → Int32 → Int32 → Int32 → Option (dS)) (hk7 : ∀ (y0 : dS) (y1 : Int32) (y2 : Int32) (y3 : Int32) (y4 : Int32), Fm w y0 → dAll (k7 y0 y1 y2 y3 y4) (fun o => Fm w o)) (k44 : dS → Int32 → Int32 → Int32 → Int32 → Int32 → Int32 → Option (dS)) (hk44 : ∀ (y0 : dS) (y1 : Int32) (y2 : Int32) (y3 : Int32) (y4 : Int32) (y5 : Int32) (y6 : Int32), Fm w y0 → dAll (k44 y0 y1 y2 y3 y4 y5 y6) (fun o => Fm w o)) (q : dS) (x1 : Int32) (x2 : Int32) (x3 : Int32) (x4 : Int32) (x6 : Int32) (x7 : Int32) (h : Fm w q) : dAll (zX10_laysOrder_44b k7 k44 q x1 x2 x3 x4 x6 x7) (fun o => Fm w o) := by
  unfold zX10_laysOrder_44b
  refine dA_V dA_tr (fun r1 _ => ?_)
  refine dA_if (fun _ => ?_) (fun _ => ?_)
  · refine dA_if (fun _ => ?_) (fun _ => ?_)
    · refine dA_G (fun _ => ?_)
      refine dA_L (fun q4 e_1 => ?_)
      have hq4 : Fm w q4 := by rw [e_1]; exact (fm_r (by decide) h)
      exact hk7 q4 x1 (x2 ||| (1 <<< ((x7 : Int32) &&& 31) : Int32)) x3 (x4 + 1) hq4
    · exact lm_zX10_laysOrder_58 w k7 hk7 k44 hk44 q x1 x2 x3 x4 x6 x7 h
  · exact lm_zX10_laysOrder_58 w k7 hk7 k44 hk44 q x1 x2 x3 x4 x6 x7 h

theorem lm_zX10_laysOrder_44 (w : dS) (k7 : dS → Int32 → Int32 → Int32 → Int32 → Option (dS)) (hk7 : ∀ (y0 : dS) (y1 : Int32) (y2 : Int32) (y3 : Int32) (y4 : Int32), Fm w y0 → dAll (k7 y0 y1 y2 y3 y4) (fun o => Fm w o)) (n : Nat) (q : dS) (x1 : Int32) (x2 : Int32) (x3 : Int32) (x4 : Int32) (x6 : Int32) (x7 : Int32) (h : Fm w q) : dAll (zX10_laysOrder_44 k7 n q x1 x2 x3 x4 x6 x7) (fun o => Fm w o) := by
  unfold zX10_laysOrder_44
  exact dA_fix (fun (a : dS × Int32 × Int32 × Int32 × Int32 × Int32 × Int32) => Fm w a.1) (fun k hk a ha => lm_zX10_laysOrder_44b w k7 hk7 _ (fun q x1 x2 x3 x4 x6 x7 hq => hk (q, x1, x2, x3, x4, x6, x7) hq) a.1 a.2.1 a.2.2.1 a.2.2.2.1 a.2.2.2.2.1 a.2.2.2.2.2.1 a.2.2.2.2.2.2 ha) n _ h

theorem lm_zX10_laysOrder_7b (w : dS) (k7 : dS → Int32 → Int32 → Int32 → Int32 → Option (dS)) (hk7 : ∀ (y0 : dS) (y1 : Int32) (y2 : Int32) (y3 : Int32) (y4 : Int32), Fm w y0 → dAll (k7 y0 y1 y2 y3 y4) (fun o => Fm w o)) (q : dS) (x1 : Int32) (x2 : Int32) (x3 : Int32) (x4 : Int32) (h : Fm w q) : dAll (zX10_laysOrder_7b k7 q x1 x2 x3 x4) (fun o => Fm w o) := by
  unfold zX10_laysOrder_7b
  refine dA_B (lm_zX10_size w q h) (fun r1 q3 hq3 => ?_)
  refine dA_if (fun _ => ?_) (fun _ => ?_)
  · exact dA_some hq3
  · refine dA_B (lm_zX10_size w q3 hq3) (fun r4 q6 hq6 => ?_)
    refine dA_V dA_tr (fun r7 _ => ?_)
    refine dA_G (fun _ => ?_)
    refine dA_G (fun _ => ?_)
    exact lm_zX10_laysOrder_44 w k7 hk7 dF q6 x1 x2 (x3 - x3 / r7 * r7) x4 (x3 / r7) 0 hq6

theorem lm_zX10_laysOrder_7 (w : dS) (n : Nat) (q : dS) (x1 : Int32) (x2 : Int32) (x3 : Int32) (x4 : Int32) (h : Fm w q) : dAll (zX10_laysOrder_7 n q x1 x2 x3 x4) (fun o => Fm w o) := by
  unfold zX10_laysOrder_7
  exact dA_fix (fun (a : dS × Int32 × Int32 × Int32 × Int32) => Fm w a.1) (fun k hk a ha => lm_zX10_laysOrder_7b w  _ (fun q x1 x2 x3 x4 hq => hk (q, x1, x2, x3, x4) hq) a.1 a.2.1 a.2.2.1 a.2.2.2.1 a.2.2.2.2 ha) n _ h

theorem lm_zX10_laysOrder (w : dS) (q : dS) (p1 : Int32) (h : Fm w q) : dAll (zX10_laysOrder q p1) (fun o => Fm w o) := by
  unfold zX10_laysOrder
  exact lm_zX10_laysOrder_7 w dF q p1 0 p1 0 h

theorem lm_zX10_headsBehind_42 (w : dS) (k5 : dS → Int32 → Int32 → Int32 → Int32 → Option (Int32 × dS)) (hk5 : ∀ (y0 : dS) (y1 : Int32) (y2 : Int32) (y3 : Int32) (y4 : Int32), Fm w y0 → dAll (k5 y0 y1 y2 y3 y4) (fun o => Fm w o.2)) (q : dS) (x1 : Int32) (x2 : Int32) (x4 : Int32) (y0 : Int32) (y1 : Int32) (h : Fm w q) : dAll (zX10_headsBehind_42 k5 q x1 x2 x4 y0 y1) (fun o => Fm w o.2) := by
  unfold zX10_headsBehind_42
  exact hk5 q x1 x2 (y1 ||| (y0 <<< ((x4 : Int32) &&& 31))) (x4 + 1) h

theorem lm_zX10_headsBehind_5b (w : dS) (k5 : dS → Int32 → Int32 → Int32 → Int32 → Option (Int32 × dS)) (hk5 : ∀ (y0 : dS) (y1 : Int32) (y2 : Int32) (y3 : Int32) (y4 : Int32), Fm w y0 → dAll (k5 y0 y1 y2 y3 y4) (fun o => Fm w o.2)) (q : dS) (x1 : Int32) (x2 : Int32) (x3 : Int32) (x4 : Int32) (h : Fm w q) : dAll (zX10_headsBehind_5b k5 q x1 x2 x3 x4) (fun o => Fm w o.2) := by
  unfold zX10_headsBehind_5b
  refine dA_B (lm_zX10_size w q h) (fun r1 q3 hq3 => ?_)
  refine dA_if (fun _ => ?_) (fun _ => ?_)
  · exact dA_some hq3
  · refine dA_if (fun _ => ?_) (fun _ => ?_)
    · exact lm_zX10_headsBehind_42 w k5 hk5 q3 x1 x2 x4 ((x1 >>> ((x4 : Int32) &&& 31)) &&& 1 : Int32) x3 hq3
    · refine dA_L (fun v4 e_1 => ?_)
      exact lm_zX10_headsBehind_42 w k5 hk5 q3 x1 x2 x4 (1 - v4 : Int32) x3 hq3

theorem lm_zX10_headsBehind_5 (w : dS) (n : Nat) (q : dS) (x1 : Int32) (x2 : Int32) (x3 : Int32) (x4 : Int32) (h : Fm w q) : dAll (zX10_headsBehind_5 n q x1 x2 x3 x4) (fun o => Fm w o.2) := by
  unfold zX10_headsBehind_5
  exact dA_fix (fun (a : dS × Int32 × Int32 × Int32 × Int32) => Fm w a.1) (fun k hk a ha => lm_zX10_headsBehind_5b w  _ (fun q x1 x2 x3 x4 hq => hk (q, x1, x2, x3, x4) hq) a.1 a.2.1 a.2.2.1 a.2.2.2.1 a.2.2.2.2 ha) n _ h

theorem lm_zX10_headsBehind (w : dS) (q : dS) (p1 : Int32) (p2 : Int32) (h : Fm w q) : dAll (zX10_headsBehind q p1 p2) (fun o => Fm w o.2) := by
  unfold zX10_headsBehind
  exact lm_zX10_headsBehind_5 w dF q p1 p2 0 0 h

theorem lm_zX10_laysTables_131b (w : dS) (k121 : dS → Int32 → Option (dS)) (hk121 : ∀ (y0 : dS) (y1 : Int32), Fm w y0 → dAll (k121 y0 y1) (fun o => Fm w o)) (k131 : dS → Int32 → Int32 → Option (dS)) (hk131 : ∀ (y0 : dS) (y1 : Int32) (y2 : Int32), Fm w y0 → dAll (k131 y0 y1 y2) (fun o => Fm w o)) (q : dS) (x1 : Int32) (x2 : Int32) (h : Fm w q) : dAll (zX10_laysTables_131b k121 k131 q x1 x2) (fun o => Fm w o) := by
  unfold zX10_laysTables_131b
  refine dA_B (lm_zX10_size w q h) (fun r1 q3 hq3 => ?_)
  refine dA_if (fun _ => ?_) (fun _ => ?_)
  · exact hk121 q3 (x1 + 1) hq3
  · refine dA_B (lm_zX10_headsBehind w q3 x1 x2 hq3) (fun r4 q6 hq6 => ?_)
    refine dA_G (fun _ => ?_)
    refine dA_L (fun q8 e_1 => ?_)
    have hq8 : Fm w q8 := by rw [e_1]; exact (fm_r (by decide) hq6)
    exact hk131 q8 x1 (x2 + 1) hq8

theorem lm_zX10_laysTables_131 (w : dS) (k121 : dS → Int32 → Option (dS)) (hk121 : ∀ (y0 : dS) (y1 : Int32), Fm w y0 → dAll (k121 y0 y1) (fun o => Fm w o)) (n : Nat) (q : dS) (x1 : Int32) (x2 : Int32) (h : Fm w q) : dAll (zX10_laysTables_131 k121 n q x1 x2) (fun o => Fm w o) := by
  unfold zX10_laysTables_131
  exact dA_fix (fun (a : dS × Int32 × Int32) => Fm w a.1) (fun k hk a ha => lm_zX10_laysTables_131b w k121 hk121 _ (fun q x1 x2 hq => hk (q, x1, x2) hq) a.1 a.2.1 a.2.2 ha) n _ h

theorem lm_zX10_laysTables_121b (w : dS) (k121 : dS → Int32 → Option (dS)) (hk121 : ∀ (y0 : dS) (y1 : Int32), Fm w y0 → dAll (k121 y0 y1) (fun o => Fm w o)) (q : dS) (x1 : Int32) (h : Fm w q) : dAll (zX10_laysTables_121b k121 q x1) (fun o => Fm w o) := by
  unfold zX10_laysTables_121b
  refine dA_if (fun _ => ?_) (fun _ => ?_)
  · exact dA_some h
  · exact lm_zX10_laysTables_131 w k121 hk121 dF q x1 1 h

theorem lm_zX10_laysTables_121 (w : dS) (n : Nat) (q : dS) (x1 : Int32) (h : Fm w q) : dAll (zX10_laysTables_121 n q x1) (fun o => Fm w o) := by
  unfold zX10_laysTables_121
  exact dA_fix (fun (a : dS × Int32) => Fm w a.1) (fun k hk a ha => lm_zX10_laysTables_121b w  _ (fun q x1 hq => hk (q, x1) hq) a.1 a.2 ha) n _ h

theorem lm_zX10_laysTables_83 (w : dS) (k23 : dS → Int32 → Option (dS)) (hk23 : ∀ (y0 : dS) (y1 : Int32), Fm w y0 → dAll (k23 y0 y1) (fun o => Fm w o)) (k38 : dS → Int32 → Int32 → Option (dS)) (hk38 : ∀ (y0 : dS) (y1 : Int32) (y2 : Int32), Fm w y0 → dAll (k38 y0 y1 y2) (fun o => Fm w o)) (k48 : dS → Int32 → Int32 → Int32 → Option (dS)) (hk48 : ∀ (y0 : dS) (y1 : Int32) (y2 : Int32) (y3 : Int32), Fm w y0 → dAll (k48 y0 y1 y2 y3) (fun o => Fm w o)) (q : dS) (x1 : Int32) (x2 : Int32) (x3 : Int32) (y0 : Int32) (y1 : Int32) (y3 : Int32) (h : Fm w q) : dAll (zX10_laysTables_83 k23 k38 k48 q x1 x2 x3 y0 y1 y3) (fun o => Fm w o) := by
  unfold zX10_laysTables_83
  refine dA_G (fun _ => ?_)
  refine dA_L (fun v2 e_1 => ?_)
  refine dA_G (fun _ => ?_)
  refine dA_L (fun q4 e_2 => ?_)
  have hq4 : Fm w q4 := by rw [e_2]; exact (fm_r (by decide) h)
  exact hk48 q4 x1 x2 (x3 + 1) hq4

theorem lm_zX10_laysTables_48b (w : dS) (k23 : dS → Int32 → Option (dS)) (hk23 : ∀ (y0 : dS) (y1 : Int32), Fm w y0 → dAll (k23 y0 y1) (fun o => Fm w o)) (k38 : dS → Int32 → Int32 → Option (dS)) (hk38 : ∀ (y0 : dS) (y1 : Int32) (y2 : Int32), Fm w y0 → dAll (k38 y0 y1 y2) (fun o => Fm w o)) (k48 : dS → Int32 → Int32 → Int32 → Option (dS)) (hk48 : ∀ (y0 : dS) (y1 : Int32) (y2 : Int32) (y3 : Int32), Fm w y0 → dAll (k48 y0 y1 y2 y3) (fun o => Fm w o)) (q : dS) (x1 : Int32) (x2 : Int32) (x3 : Int32) (h : Fm w q) : dAll (zX10_laysTables_48b k23 k38 k48 q x1 x2 x3) (fun o => Fm w o) := by
  unfold zX10_laysTables_48b
  refine dA_B (lm_zX10_size w q h) (fun r1 q3 hq3 => ?_)
  refine dA_if (fun _ => ?_) (fun _ => ?_)
  · refine dA_B (lm_zX10_numberOf w q3 hq3) (fun r4 q6 hq6 => ?_)
    refine dA_G (fun _ => ?_)
    refine dA_L (fun q8 e_1 => ?_)
    have hq8 : Fm w q8 := by rw [e_1]; exact (fm_r (by decide) hq6)
    exact hk38 q8 x1 (x2 + 1) hq8
  · refine dA_if (fun _ => ?_) (fun _ => ?_)
    · exact lm_zX10_laysTables_83 w k23 hk23 k38 hk38 k48 hk48 q3 x1 x2 x3 x3 (6 * x1 : Int32) x3 hq3
    · exact lm_zX10_laysTables_83 w k23 hk23 k38 hk38 k48 hk48 q3 x1 x2 x3 ((x2 - 1 : Int32) - x3) (6 * x1 : Int32) x3 hq3

theorem lm_zX10_laysTables_48 (w : dS) (k23 : dS → Int32 → Option (dS)) (hk23 : ∀ (y0 : dS) (y1 : Int32), Fm w y0 → dAll (k23 y0 y1) (fun o => Fm w o)) (k38 : dS → Int32 → Int32 → Option (dS)) (hk38 : ∀ (y0 : dS) (y1 : Int32) (y2 : Int32), Fm w y0 → dAll (k38 y0 y1 y2) (fun o => Fm w o)) (n : Nat) (q : dS) (x1 : Int32) (x2 : Int32) (x3 : Int32) (h : Fm w q) : dAll (zX10_laysTables_48 k23 k38 n q x1 x2 x3) (fun o => Fm w o) := by
  unfold zX10_laysTables_48
  exact dA_fix (fun (a : dS × Int32 × Int32 × Int32) => Fm w a.1) (fun k hk a ha => lm_zX10_laysTables_48b w k23 hk23 k38 hk38 _ (fun q x1 x2 x3 hq => hk (q, x1, x2, x3) hq) a.1 a.2.1 a.2.2.1 a.2.2.2 ha) n _ h

theorem lm_zX10_laysTables_38b (w : dS) (k23 : dS → Int32 → Option (dS)) (hk23 : ∀ (y0 : dS) (y1 : Int32), Fm w y0 → dAll (k23 y0 y1) (fun o => Fm w o)) (k38 : dS → Int32 → Int32 → Option (dS)) (hk38 : ∀ (y0 : dS) (y1 : Int32) (y2 : Int32), Fm w y0 → dAll (k38 y0 y1 y2) (fun o => Fm w o)) (q : dS) (x1 : Int32) (x2 : Int32) (h : Fm w q) : dAll (zX10_laysTables_38b k23 k38 q x1 x2) (fun o => Fm w o) := by
  unfold zX10_laysTables_38b
  refine dA_B (lm_zX10_size w q h) (fun r1 q3 hq3 => ?_)
  refine dA_if (fun _ => ?_) (fun _ => ?_)
  · exact hk23 q3 (x1 + 1) hq3
  · exact lm_zX10_laysTables_48 w k23 hk23 k38 hk38 dF q3 x1 x2 0 hq3

theorem lm_zX10_laysTables_38 (w : dS) (k23 : dS → Int32 → Option (dS)) (hk23 : ∀ (y0 : dS) (y1 : Int32), Fm w y0 → dAll (k23 y0 y1) (fun o => Fm w o)) (n : Nat) (q : dS) (x1 : Int32) (x2 : Int32) (h : Fm w q) : dAll (zX10_laysTables_38 k23 n q x1 x2) (fun o => Fm w o) := by
  unfold zX10_laysTables_38
  exact dA_fix (fun (a : dS × Int32 × Int32) => Fm w a.1) (fun k hk a ha => lm_zX10_laysTables_38b w k23 hk23 _ (fun q x1 x2 hq => hk (q, x1, x2) hq) a.1 a.2.1 a.2.2 ha) n _ h

theorem lm_zX10_laysTables_23b (w : dS) (k23 : dS → Int32 → Option (dS)) (hk23 : ∀ (y0 : dS) (y1 : Int32), Fm w y0 → dAll (k23 y0 y1) (fun o => Fm w o)) (q : dS) (x1 : Int32) (h : Fm w q) : dAll (zX10_laysTables_23b k23 q x1) (fun o => Fm w o) := by
  unfold zX10_laysTables_23b
  refine dA_if (fun _ => ?_) (fun _ => ?_)
  · exact lm_zX10_laysTables_121 w dF q 0 h
  · refine dA_V (lm_zX10_laysOrder w q x1 h) (fun q3 hq3 => ?_)
    exact lm_zX10_laysTables_38 w k23 hk23 dF q3 x1 1 hq3

theorem lm_zX10_laysTables_23 (w : dS) (n : Nat) (q : dS) (x1 : Int32) (h : Fm w q) : dAll (zX10_laysTables_23 n q x1) (fun o => Fm w o) := by
  unfold zX10_laysTables_23
  exact dA_fix (fun (a : dS × Int32) => Fm w a.1) (fun k hk a ha => lm_zX10_laysTables_23b w  _ (fun q x1 hq => hk (q, x1) hq) a.1 a.2 ha) n _ h

theorem lm_zX10_laysTables (w : dS) (q : dS) (h : Fm w q) : dAll (zX10_laysTables q) (fun o => Fm w o) := by
  unfold zX10_laysTables
  refine dA_B (lm_zX10_size w q h) (fun r1 q3 hq3 => ?_)
  refine dA_V dA_tr (fun r4 _ => ?_)
  refine dA_L (fun q6 e_1 => ?_)
  have hq6 : Fm w q6 := by rw [e_1]; exact (fm_0 (by decide) hq3)
  refine dA_B (lm_zX10_size w q6 hq6) (fun r7 q9 hq9 => ?_)
  refine dA_L (fun q10 e_2 => ?_)
  have hq10 : Fm w q10 := by rw [e_2]; exact (fm_0 (by decide) hq9)
  exact lm_zX10_laysTables_23 w dF q10 0 hq10

theorem lm_zX10_behind (w : dS) (q : dS) (p1 : Int32) (p2 : Int32) (h : Fm w q) : dAll (zX10_behind q p1 p2) (fun o => Fm w o.2) := by
  unfold zX10_behind
  refine dA_G (fun _ => ?_)
  refine dA_L (fun v2 e_1 => ?_)
  refine dA_G (fun _ => ?_)
  refine dA_L (fun v4 e_2 => ?_)
  exact dA_some h

theorem lm_zX10_rankOf_40 (w : dS) (k4 : dS → Int32 → Int32 → Int32 → Option (Int32 × dS)) (hk4 : ∀ (y0 : dS) (y1 : Int32) (y2 : Int32) (y3 : Int32), Fm w y0 → dAll (k4 y0 y1 y2 y3) (fun o => Fm w o.2)) (q : dS) (x1 : Int32) (x3 : Int32) (y0 : Int32) (h : Fm w q) : dAll (zX10_rankOf_40 k4 q x1 x3 y0) (fun o => Fm w o.2) := by
  unfold zX10_rankOf_40
  exact hk4 q x1 y0 (x3 + 1) h

theorem lm_zX10_rankOf_4b (w : dS) (k4 : dS → Int32 → Int32 → Int32 → Option (Int32 × dS)) (hk4 : ∀ (y0 : dS) (y1 : Int32) (y2 : Int32) (y3 : Int32), Fm w y0 → dAll (k4 y0 y1 y2 y3) (fun o => Fm w o.2)) (q : dS) (x1 : Int32) (x2 : Int32) (x3 : Int32) (h : Fm w q) : dAll (zX10_rankOf_4b k4 q x1 x2 x3) (fun o => Fm w o.2) := by
  unfold zX10_rankOf_4b
  refine dA_B (lm_zX10_size w q h) (fun r1 q3 hq3 => ?_)
  refine dA_if (fun _ => ?_) (fun _ => ?_)
  · exact dA_some hq3
  · refine dA_G (fun _ => ?_)
    refine dA_L (fun v5 e_1 => ?_)
    refine dA_B (lm_zX10_lessThan w q3 v5 hq3) (fun r6 q8 hq8 => ?_)
    refine dA_if (fun _ => ?_) (fun _ => ?_)
    · refine dA_G (fun _ => ?_)
      refine dA_L (fun v10 e_2 => ?_)
      exact lm_zX10_rankOf_40 w k4 hk4 q8 x1 x3 v10 hq8
    · exact lm_zX10_rankOf_40 w k4 hk4 q8 x1 x3 x2 hq8

theorem lm_zX10_rankOf_4 (w : dS) (n : Nat) (q : dS) (x1 : Int32) (x2 : Int32) (x3 : Int32) (h : Fm w q) : dAll (zX10_rankOf_4 n q x1 x2 x3) (fun o => Fm w o.2) := by
  unfold zX10_rankOf_4
  exact dA_fix (fun (a : dS × Int32 × Int32 × Int32) => Fm w a.1) (fun k hk a ha => lm_zX10_rankOf_4b w  _ (fun q x1 x2 x3 hq => hk (q, x1, x2, x3) hq) a.1 a.2.1 a.2.2.1 a.2.2.2 ha) n _ h

theorem lm_zX10_rankOf (w : dS) (q : dS) (p1 : Int32) (h : Fm w q) : dAll (zX10_rankOf q p1) (fun o => Fm w o.2) := by
  unfold zX10_rankOf
  exact lm_zX10_rankOf_4 w dF q p1 (-1) 0 h

theorem lm_zX10_towerNow_4b (w : dS) (k4 : dS → Int32 → Int32 → Option (Int32 × dS)) (hk4 : ∀ (y0 : dS) (y1 : Int32) (y2 : Int32), Fm w y0 → dAll (k4 y0 y1 y2) (fun o => Fm w o.2)) (q : dS) (x1 : Int32) (x2 : Int32) (h : Fm w q) : dAll (zX10_towerNow_4b k4 q x1 x2) (fun o => Fm w o.2) := by
  unfold zX10_towerNow_4b
  refine dA_B (lm_zX10_size w q h) (fun r1 q3 hq3 => ?_)
  refine dA_if (fun _ => ?_) (fun _ => ?_)
  · refine dA_B (lm_zX10_numberOf w q3 hq3) (fun r4 q6 hq6 => ?_)
    exact dA_some hq6
  · refine dA_G (fun _ => ?_)
    refine dA_L (fun v8 e_1 => ?_)
    refine dA_B (lm_zX10_lessThan w q3 v8 hq3) (fun r9 q11 hq11 => ?_)
    refine dA_G (fun _ => ?_)
    refine dA_L (fun q13 e_2 => ?_)
    have hq13 : Fm w q13 := by rw [e_2]; exact (fm_r (by decide) hq11)
    refine dA_G (fun _ => ?_)
    refine dA_L (fun v15 e_3 => ?_)
    exact hk4 q13 (x1 ||| (v15 <<< ((x2 : Int32) &&& 31))) (x2 + 1) hq13

theorem lm_zX10_towerNow_4 (w : dS) (n : Nat) (q : dS) (x1 : Int32) (x2 : Int32) (h : Fm w q) : dAll (zX10_towerNow_4 n q x1 x2) (fun o => Fm w o.2) := by
  unfold zX10_towerNow_4
  exact dA_fix (fun (a : dS × Int32 × Int32) => Fm w a.1) (fun k hk a ha => lm_zX10_towerNow_4b w  _ (fun q x1 x2 hq => hk (q, x1, x2) hq) a.1 a.2.1 a.2.2 ha) n _ h

theorem lm_zX10_towerNow (w : dS) (q : dS) (h : Fm w q) : dAll (zX10_towerNow q) (fun o => Fm w o.2) := by
  unfold zX10_towerNow
  exact lm_zX10_towerNow_4 w dF q 0 0 h

theorem lm_zX10_laysPrices_98 (w : dS) (k6 : dS → Int32 → Option (dS)) (hk6 : ∀ (y0 : dS) (y1 : Int32), Fm w y0 → dAll (k6 y0 y1) (fun o => Fm w o)) (k16 : dS → Int32 → Int32 → Option (dS)) (hk16 : ∀ (y0 : dS) (y1 : Int32) (y2 : Int32), Fm w y0 → dAll (k16 y0 y1 y2) (fun o => Fm w o)) (k26 : dS → Int32 → Int32 → Int32 → Option (dS)) (hk26 : ∀ (y0 : dS) (y1 : Int32) (y2 : Int32) (y3 : Int32), Fm w y0 → dAll (k26 y0 y1 y2 y3) (fun o => Fm w o)) (k37 : dS → Int32 → Int32 → Int32 → Int32 → Option (dS)) (hk37 : ∀ (y0 : dS) (y1 : Int32) (y2 : Int32) (y3 : Int32) (y4 : Int32), Fm w y0 → dAll (k37 y0 y1 y2 y3 y4) (fun o => Fm w o)) (q : dS) (x1 : Int32) (x2 : Int32) (x3 : Int32) (x4 : Int32) (y0 : Int32) (y1 : Int32) (h : Fm w q) : dAll (zX10_laysPrices_98 k6 k16 k26 k37 q x1 x2 x3 x4 y0 y1) (fun o => Fm w o) := by
  unfold zX10_laysPrices_98
  refine dA_G (fun _ => ?_)
  refine dA_L (fun q2 e_1 => ?_)
  have hq2 : Fm w q2 := by rw [e_1]; exact (fm_r (by decide) h)
  exact hk37 q2 x1 x2 x3 (x4 + 1) hq2

theorem lm_zX10_laysPrices_65 (w : dS) (k6 : dS → Int32 → Option (dS)) (hk6 : ∀ (y0 : dS) (y1 : Int32), Fm w y0 → dAll (k6 y0 y1) (fun o => Fm w o)) (k16 : dS → Int32 → Int32 → Option (dS)) (hk16 : ∀ (y0 : dS) (y1 : Int32) (y2 : Int32), Fm w y0 → dAll (k16 y0 y1 y2) (fun o => Fm w o)) (k26 : dS → Int32 → Int32 → Int32 → Option (dS)) (hk26 : ∀ (y0 : dS) (y1 : Int32) (y2 : Int32) (y3 : Int32), Fm w y0 → dAll (k26 y0 y1 y2 y3) (fun o => Fm w o)) (k37 : dS → Int32 → Int32 → Int32 → Int32 → Option (dS)) (hk37 : ∀ (y0 : dS) (y1 : Int32) (y2 : Int32) (y3 : Int32) (y4 : Int32), Fm w y0 → dAll (k37 y0 y1 y2 y3 y4) (fun o => Fm w o)) (q : dS) (x1 : Int32) (x2 : Int32) (x3 : Int32) (x4 : Int32) (y0 : Int32) (y1 : Int32) (y2 : Int32) (h : Fm w q) : dAll (zX10_laysPrices_65 k6 k16 k26 k37 q x1 x2 x3 x4 y0 y1 y2) (fun o => Fm w o) := by
  unfold zX10_laysPrices_65
  refine dA_V (lm_zX10_setsTurn w q y2 y1 y0 x4 h) (fun q3 hq3 => ?_)
  refine dA_V dA_tr (fun r4 _ => ?_)
  refine dA_B (lm_zX10_isNow w q3 2 hq3) (fun r6 q8 hq8 => ?_)
  refine dA_if (fun _ => ?_) (fun _ => ?_)
  · refine dA_B (lm_zX10_paysNow w q8 hq8) (fun r9 q11 hq11 => ?_)
    exact lm_zX10_laysPrices_98 w k6 hk6 k16 hk16 k26 hk26 k37 hk37 q11 x1 x2 x3 x4 r9 r4 hq11
  · exact lm_zX10_laysPrices_98 w k6 hk6 k16 hk16 k26 hk26 k37 hk37 q8 x1 x2 x3 x4 (-1) r4 hq8

theorem lm_zX10_laysPrices_37b (w : dS) (k6 : dS → Int32 → Option (dS)) (hk6 : ∀ (y0 : dS) (y1 : Int32), Fm w y0 → dAll (k6 y0 y1) (fun o => Fm w o)) (k16 : dS → Int32 → Int32 → Option (dS)) (hk16 : ∀ (y0 : dS) (y1 : Int32) (y2 : Int32), Fm w y0 → dAll (k16 y0 y1 y2) (fun o => Fm w o)) (k26 : dS → Int32 → Int32 → Int32 → Option (dS)) (hk26 : ∀ (y0 : dS) (y1 : Int32) (y2 : Int32) (y3 : Int32), Fm w y0 → dAll (k26 y0 y1 y2 y3) (fun o => Fm w o)) (k37 : dS → Int32 → Int32 → Int32 → Int32 → Option (dS)) (hk37 : ∀ (y0 : dS) (y1 : Int32) (y2 : Int32) (y3 : Int32) (y4 : Int32), Fm w y0 → dAll (k37 y0 y1 y2 y3 y4) (fun o => Fm w o)) (q : dS) (x1 : Int32) (x2 : Int32) (x3 : Int32) (x4 : Int32) (h : Fm w q) : dAll (zX10_laysPrices_37b k6 k16 k26 k37 q x1 x2 x3 x4) (fun o => Fm w o) := by
  unfold zX10_laysPrices_37b
  refine dA_if (fun _ => ?_) (fun _ => ?_)
  · exact hk26 q x1 x2 (x3 + 1) h
  · refine dA_B (lm_zX10_rankOf w q x2 h) (fun r1 q3 hq3 => ?_)
    refine dA_if (fun _ => ?_) (fun _ => ?_)
    · exact lm_zX10_laysPrices_65 w k6 hk6 k16 hk16 k26 hk26 k37 hk37 q3 x1 x2 x3 x4 (-1) r1 x1 hq3
    · refine dA_B (lm_zX10_rankOf w q3 (x3 - 1 : Int32) hq3) (fun r4 q6 hq6 => ?_)
      exact lm_zX10_laysPrices_65 w k6 hk6 k16 hk16 k26 hk26 k37 hk37 q6 x1 x2 x3 x4 r4 r1 x1 hq6

theorem lm_zX10_laysPrices_37 (w : dS) (k6 : dS → Int32 → Option (dS)) (hk6 : ∀ (y0 : dS) (y1 : Int32), Fm w y0 → dAll (k6 y0 y1) (fun o => Fm w o)) (k16 : dS → Int32 → Int32 → Option (dS)) (hk16 : ∀ (y0 : dS) (y1 : Int32) (y2 : Int32), Fm w y0 → dAll (k16 y0 y1 y2) (fun o => Fm w o)) (k26 : dS → Int32 → Int32 → Int32 → Option (dS)) (hk26 : ∀ (y0 : dS) (y1 : Int32) (y2 : Int32) (y3 : Int32), Fm w y0 → dAll (k26 y0 y1 y2 y3) (fun o => Fm w o)) (n : Nat) (q : dS) (x1 : Int32) (x2 : Int32) (x3 : Int32) (x4 : Int32) (h : Fm w q) : dAll (zX10_laysPrices_37 k6 k16 k26 n q x1 x2 x3 x4) (fun o => Fm w o) := by
  unfold zX10_laysPrices_37
  exact dA_fix (fun (a : dS × Int32 × Int32 × Int32 × Int32) => Fm w a.1) (fun k hk a ha => lm_zX10_laysPrices_37b w k6 hk6 k16 hk16 k26 hk26 _ (fun q x1 x2 x3 x4 hq => hk (q, x1, x2, x3, x4) hq) a.1 a.2.1 a.2.2.1 a.2.2.2.1 a.2.2.2.2 ha) n _ h

theorem lm_zX10_laysPrices_26b (w : dS) (k6 : dS → Int32 → Option (dS)) (hk6 : ∀ (y0 : dS) (y1 : Int32), Fm w y0 → dAll (k6 y0 y1) (fun o => Fm w o)) (k16 : dS → Int32 → Int32 → Option (dS)) (hk16 : ∀ (y0 : dS) (y1 : Int32) (y2 : Int32), Fm w y0 → dAll (k16 y0 y1 y2) (fun o => Fm w o)) (k26 : dS → Int32 → Int32 → Int32 → Option (dS)) (hk26 : ∀ (y0 : dS) (y1 : Int32) (y2 : Int32) (y3 : Int32), Fm w y0 → dAll (k26 y0 y1 y2 y3) (fun o => Fm w o)) (q : dS) (x1 : Int32) (x2 : Int32) (x3 : Int32) (h : Fm w q) : dAll (zX10_laysPrices_26b k6 k16 k26 q x1 x2 x3) (fun o => Fm w o) := by
  unfold zX10_laysPrices_26b
  refine dA_B (lm_zX10_size w q h) (fun r1 q3 hq3 => ?_)
  refine dA_if (fun _ => ?_) (fun _ => ?_)
  · exact hk16 q3 x1 (x2 + 1) hq3
  · exact lm_zX10_laysPrices_37 w k6 hk6 k16 hk16 k26 hk26 dF q3 x1 x2 x3 0 hq3

theorem lm_zX10_laysPrices_26 (w : dS) (k6 : dS → Int32 → Option (dS)) (hk6 : ∀ (y0 : dS) (y1 : Int32), Fm w y0 → dAll (k6 y0 y1) (fun o => Fm w o)) (k16 : dS → Int32 → Int32 → Option (dS)) (hk16 : ∀ (y0 : dS) (y1 : Int32) (y2 : Int32), Fm w y0 → dAll (k16 y0 y1 y2) (fun o => Fm w o)) (n : Nat) (q : dS) (x1 : Int32) (x2 : Int32) (x3 : Int32) (h : Fm w q) : dAll (zX10_laysPrices_26 k6 k16 n q x1 x2 x3) (fun o => Fm w o) := by
  unfold zX10_laysPrices_26
  exact dA_fix (fun (a : dS × Int32 × Int32 × Int32) => Fm w a.1) (fun k hk a ha => lm_zX10_laysPrices_26b w k6 hk6 k16 hk16 _ (fun q x1 x2 x3 hq => hk (q, x1, x2, x3) hq) a.1 a.2.1 a.2.2.1 a.2.2.2 ha) n _ h

theorem lm_zX10_laysPrices_16b (w : dS) (k6 : dS → Int32 → Option (dS)) (hk6 : ∀ (y0 : dS) (y1 : Int32), Fm w y0 → dAll (k6 y0 y1) (fun o => Fm w o)) (k16 : dS → Int32 → Int32 → Option (dS)) (hk16 : ∀ (y0 : dS) (y1 : Int32) (y2 : Int32), Fm w y0 → dAll (k16 y0 y1 y2) (fun o => Fm w o)) (q : dS) (x1 : Int32) (x2 : Int32) (h : Fm w q) : dAll (zX10_laysPrices_16b k6 k16 q x1 x2) (fun o => Fm w o) := by
  unfold zX10_laysPrices_16b
  refine dA_B (lm_zX10_size w q h) (fun r1 q3 hq3 => ?_)
  refine dA_if (fun _ => ?_) (fun _ => ?_)
  · exact hk6 q3 (x1 + 1) hq3
  · exact lm_zX10_laysPrices_26 w k6 hk6 k16 hk16 dF q3 x1 x2 0 hq3

theorem lm_zX10_laysPrices_16 (w : dS) (k6 : dS → Int32 → Option (dS)) (hk6 : ∀ (y0 : dS) (y1 : Int32), Fm w y0 → dAll (k6 y0 y1) (fun o => Fm w o)) (n : Nat) (q : dS) (x1 : Int32) (x2 : Int32) (h : Fm w q) : dAll (zX10_laysPrices_16 k6 n q x1 x2) (fun o => Fm w o) := by
  unfold zX10_laysPrices_16
  exact dA_fix (fun (a : dS × Int32 × Int32) => Fm w a.1) (fun k hk a ha => lm_zX10_laysPrices_16b w k6 hk6 _ (fun q x1 x2 hq => hk (q, x1, x2) hq) a.1 a.2.1 a.2.2 ha) n _ h

theorem lm_zX10_laysPrices_6b (w : dS) (k6 : dS → Int32 → Option (dS)) (hk6 : ∀ (y0 : dS) (y1 : Int32), Fm w y0 → dAll (k6 y0 y1) (fun o => Fm w o)) (q : dS) (x1 : Int32) (h : Fm w q) : dAll (zX10_laysPrices_6b k6 q x1) (fun o => Fm w o) := by
  unfold zX10_laysPrices_6b
  refine dA_B (lm_zX10_size w q h) (fun r1 q3 hq3 => ?_)
  refine dA_if (fun _ => ?_) (fun _ => ?_)
  · exact dA_some hq3
  · exact lm_zX10_laysPrices_16 w k6 hk6 dF q3 x1 0 hq3

theorem lm_zX10_laysPrices_6 (w : dS) (n : Nat) (q : dS) (x1 : Int32) (h : Fm w q) : dAll (zX10_laysPrices_6 n q x1) (fun o => Fm w o) := by
  unfold zX10_laysPrices_6
  exact dA_fix (fun (a : dS × Int32) => Fm w a.1) (fun k hk a ha => lm_zX10_laysPrices_6b w  _ (fun q x1 hq => hk (q, x1) hq) a.1 a.2 ha) n _ h

theorem lm_zX10_laysPrices (w : dS) (q : dS) (h : Fm w q) : dAll (zX10_laysPrices q) (fun o => Fm w o) := by
  unfold zX10_laysPrices
  refine dA_V (lm_zX10_laysTables w q h) (fun q3 hq3 => ?_)
  exact lm_zX10_laysPrices_6 w dF q3 1 hq3

theorem lm_zX10_priceOf_41 (w : dS) (q : dS) (x1 : Int32) (y0 : Int32) (y1 : Int32) (y2 : Int32) (h : Fm w q) : dAll (zX10_priceOf_41 q x1 y0 y1 y2) (fun o => Fm w o.2) := by
  unfold zX10_priceOf_41
  refine dA_V dA_tr (fun r1 _ => ?_)
  refine dA_G (fun _ => ?_)
  refine dA_L (fun v4 e_1 => ?_)
  exact dA_some h

theorem lm_zX10_priceOf (w : dS) (q : dS) (p1 : Int32) (p2 : Int32) (h : Fm w q) : dAll (zX10_priceOf q p1 p2) (fun o => Fm w o.2) := by
  unfold zX10_priceOf
  refine dA_G (fun _ => ?_)
  refine dA_L (fun v2 e_1 => ?_)
  refine dA_B (lm_zX10_size w q h) (fun r3 q5 hq5 => ?_)
  refine dA_if (fun _ => ?_) (fun _ => ?_)
  · exact lm_zX10_priceOf_41 w q5 p1 0 v2 p2 hq5
  · refine dA_G (fun _ => ?_)
    refine dA_L (fun v7 e_2 => ?_)
    exact lm_zX10_priceOf_41 w q5 p1 (1 + v7 : Int32) v2 p2 hq5

theorem lm_zX10_isThere_27 (w : dS) (q : dS) (y0 : Int32) (h : Fm w q) : dAll (zX10_isThere_27 q y0) (fun o => Fm w o.2) := by
  unfold zX10_isThere_27
  refine dA_G (fun _ => ?_)
  exact dA_some h

theorem lm_zX10_isThere_26 (w : dS) (q : dS) (h : Fm w q) : dAll (zX10_isThere_26 q) (fun o => Fm w o.2) := by
  unfold zX10_isThere_26
  exact lm_zX10_isThere_27 w q 0 h

theorem lm_zX10_isThere (w : dS) (q : dS) (p1 : Int32) (h : Fm w q) : dAll (zX10_isThere q p1) (fun o => Fm w o.2) := by
  unfold zX10_isThere
  refine dA_if (fun _ => ?_) (fun _ => ?_)
  · exact lm_zX10_isThere_26 w q h
  · refine dA_if (fun _ => ?_) (fun _ => ?_)
    · exact lm_zX10_isThere_26 w q h
    · exact lm_zX10_isThere_27 w q 1 h

theorem lm_zX10_isOrdered_29 (w : dS) (q : dS) (y0 : Int32) (h : Fm w q) : dAll (zX10_isOrdered_29 q y0) (fun o => Fm w o.2) := by
  unfold zX10_isOrdered_29
  refine dA_G (fun _ => ?_)
  exact dA_some h

theorem lm_zX10_isOrdered_28 (w : dS) (q : dS) (h : Fm w q) : dAll (zX10_isOrdered_28 q) (fun o => Fm w o.2) := by
  unfold zX10_isOrdered_28
  exact lm_zX10_isOrdered_29 w q 0 h

theorem lm_zX10_isOrdered_24 (w : dS) (q : dS) (h : Fm w q) : dAll (zX10_isOrdered_24 q) (fun o => Fm w o.2) := by
  unfold zX10_isOrdered_24
  exact lm_zX10_isOrdered_29 w q 1 h

theorem lm_zX10_isOrdered (w : dS) (q : dS) (p1 : Int32) (h : Fm w q) : dAll (zX10_isOrdered q p1) (fun o => Fm w o.2) := by
  unfold zX10_isOrdered
  refine dA_if (fun _ => ?_) (fun _ => ?_)
  · refine dA_if (fun _ => ?_) (fun _ => ?_)
    · exact lm_zX10_isOrdered_24 w q h
    · refine dA_if (fun _ => ?_) (fun _ => ?_)
      · exact lm_zX10_isOrdered_24 w q h
      · exact lm_zX10_isOrdered_28 w q h
  · exact lm_zX10_isOrdered_28 w q h

theorem lm_zX10_laysDist_232 (w : dS) (k97 : dS → Int32 → Int32 → Option (dS)) (hk97 : ∀ (y0 : dS) (y1 : Int32) (y2 : Int32), Fm w y0 → dAll (k97 y0 y1 y2) (fun o => Fm w o)) (k112 : dS → Int32 → Int32 → Int32 → Int32 → Option (dS)) (hk112 : ∀ (y0 : dS) (y1 : Int32) (y2 : Int32) (y3 : Int32) (y4 : Int32), Fm w y0 → dAll (k112 y0 y1 y2 y3 y4) (fun o => Fm w o)) (q : dS) (x1 : Int32) (x2 : Int32) (x3 : Int32) (x4 : Int32) (h : Fm w q) : dAll (zX10_laysDist_232 k97 k112 q x1 x2 x3 x4) (fun o => Fm w o) := by
  unfold zX10_laysDist_232
  exact hk112 q x1 x2 x3 (x4 + 1) h

theorem lm_zX10_laysDist_227 (w : dS) (k97 : dS → Int32 → Int32 → Option (dS)) (hk97 : ∀ (y0 : dS) (y1 : Int32) (y2 : Int32), Fm w y0 → dAll (k97 y0 y1 y2) (fun o => Fm w o)) (k112 : dS → Int32 → Int32 → Int32 → Int32 → Option (dS)) (hk112 : ∀ (y0 : dS) (y1 : Int32) (y2 : Int32) (y3 : Int32) (y4 : Int32), Fm w y0 → dAll (k112 y0 y1 y2 y3 y4) (fun o => Fm w o)) (q : dS) (x1 : Int32) (x2 : Int32) (x3 : Int32) (x4 : Int32) (y0 : Int32) (y1 : Int32) (y2 : Int32) (y3 : Int32) (h : Fm w q) : dAll (zX10_laysDist_227 k97 k112 q x1 x2 x3 x4 y0 y1 y2 y3) (fun o => Fm w o) := by
  unfold zX10_laysDist_227
  refine dA_V dA_tr (fun r1 _ => ?_)
  refine dA_G (fun _ => ?_)
  refine dA_L (fun q4 e_1 => ?_)
  have hq4 : Fm w q4 := by rw [e_1]; exact (fm_r (by decide) h)
  exact lm_zX10_laysDist_232 w k97 hk97 k112 hk112 q4 x1 x2 x3 x4 hq4

theorem lm_zX10_laysDist_183 (w : dS) (k97 : dS → Int32 → Int32 → Option (dS)) (hk97 : ∀ (y0 : dS) (y1 : Int32) (y2 : Int32), Fm w y0 → dAll (k97 y0 y1 y2) (fun o => Fm w o)) (k112 : dS → Int32 → Int32 → Int32 → Int32 → Option (dS)) (hk112 : ∀ (y0 : dS) (y1 : Int32) (y2 : Int32) (y3 : Int32) (y4 : Int32), Fm w y0 → dAll (k112 y0 y1 y2 y3 y4) (fun o => Fm w o)) (q : dS) (x1 : Int32) (x2 : Int32) (x3 : Int32) (x4 : Int32) (x5 : Int32) (h : Fm w q) : dAll (zX10_laysDist_183 k97 k112 q x1 x2 x3 x4 x5) (fun o => Fm w o) := by
  unfold zX10_laysDist_183
  refine dA_G (fun _ => ?_)
  refine dA_L (fun v2 e_1 => ?_)
  refine dA_G (fun _ => ?_)
  refine dA_L (fun v4 e_2 => ?_)
  refine dA_G (fun _ => ?_)
  refine dA_L (fun v6 e_3 => ?_)
  refine dA_if (fun _ => ?_) (fun _ => ?_)
  · refine dA_G (fun _ => ?_)
    refine dA_L (fun v8 e_4 => ?_)
    exact lm_zX10_laysDist_227 w k97 hk97 k112 hk112 q x1 x2 x3 x4 v8 v2 1000000000 x5 h
  · exact lm_zX10_laysDist_227 w k97 hk97 k112 hk112 q x1 x2 x3 x4 0 v2 1000000000 x5 h

theorem lm_zX10_laysDist_112b (w : dS) (k97 : dS → Int32 → Int32 → Option (dS)) (hk97 : ∀ (y0 : dS) (y1 : Int32) (y2 : Int32), Fm w y0 → dAll (k97 y0 y1 y2) (fun o => Fm w o)) (k112 : dS → Int32 → Int32 → Int32 → Int32 → Option (dS)) (hk112 : ∀ (y0 : dS) (y1 : Int32) (y2 : Int32) (y3 : Int32) (y4 : Int32), Fm w y0 → dAll (k112 y0 y1 y2 y3 y4) (fun o => Fm w o)) (q : dS) (x1 : Int32) (x2 : Int32) (x3 : Int32) (x4 : Int32) (h : Fm w q) : dAll (zX10_laysDist_112b k97 k112 q x1 x2 x3 x4) (fun o => Fm w o) := by
  unfold zX10_laysDist_112b
  refine dA_B (lm_zX10_size w q h) (fun r1 q3 hq3 => ?_)
  refine dA_if (fun _ => ?_) (fun _ => ?_)
  · exact hk97 q3 x1 (x2 + 1) hq3
  · refine dA_B (lm_zX10_behind w q3 x3 x4 hq3) (fun r4 q6 hq6 => ?_)
    refine dA_B (lm_zX10_priceOf w q6 r4 x4 hq6) (fun r7 q9 hq9 => ?_)
    refine dA_if (fun _ => ?_) (fun _ => ?_)
    · exact lm_zX10_laysDist_232 w k97 hk97 k112 hk112 q9 x1 x2 x3 x4 hq9
    · refine dA_G (fun _ => ?_)
      refine dA_L (fun v11 e_1 => ?_)
      refine dA_if (fun _ => ?_) (fun _ => ?_)
      · refine dA_G (fun _ => ?_)
        refine dA_L (fun v13 e_2 => ?_)
        refine dA_G (fun _ => ?_)
        refine dA_L (fun q15 e_3 => ?_)
        have hq15 : Fm w q15 := by rw [e_3]; exact (fm_r (by decide) hq9)
        refine dA_G (fun _ => ?_)
        refine dA_L (fun q17 e_4 => ?_)
        have hq17 : Fm w q17 := by rw [e_4]; exact (fm_r (by decide) hq15)
        exact lm_zX10_laysDist_183 w k97 hk97 k112 hk112 q17 (x1 + 1) x2 x3 x4 r4 hq17
      · exact lm_zX10_laysDist_183 w k97 hk97 k112 hk112 q9 x1 x2 x3 x4 r4 hq9

theorem lm_zX10_laysDist_112 (w : dS) (k97 : dS → Int32 → Int32 → Option (dS)) (hk97 : ∀ (y0 : dS) (y1 : Int32) (y2 : Int32), Fm w y0 → dAll (k97 y0 y1 y2) (fun o => Fm w o)) (n : Nat) (q : dS) (x1 : Int32) (x2 : Int32) (x3 : Int32) (x4 : Int32) (h : Fm w q) : dAll (zX10_laysDist_112 k97 n q x1 x2 x3 x4) (fun o => Fm w o) := by
  unfold zX10_laysDist_112
  exact dA_fix (fun (a : dS × Int32 × Int32 × Int32 × Int32) => Fm w a.1) (fun k hk a ha => lm_zX10_laysDist_112b w k97 hk97 _ (fun q x1 x2 x3 x4 hq => hk (q, x1, x2, x3, x4) hq) a.1 a.2.1 a.2.2.1 a.2.2.2.1 a.2.2.2.2 ha) n _ h

theorem lm_zX10_laysDist_97b (w : dS) (k97 : dS → Int32 → Int32 → Option (dS)) (hk97 : ∀ (y0 : dS) (y1 : Int32) (y2 : Int32), Fm w y0 → dAll (k97 y0 y1 y2) (fun o => Fm w o)) (q : dS) (x1 : Int32) (x2 : Int32) (h : Fm w q) : dAll (zX10_laysDist_97b k97 q x1 x2) (fun o => Fm w o) := by
  unfold zX10_laysDist_97b
  refine dA_if (fun _ => ?_) (fun _ => ?_)
  · exact dA_some h
  · refine dA_G (fun _ => ?_)
    refine dA_L (fun v2 e_1 => ?_)
    exact lm_zX10_laysDist_112 w k97 hk97 dF q x1 x2 v2 1 h

theorem lm_zX10_laysDist_97 (w : dS) (n : Nat) (q : dS) (x1 : Int32) (x2 : Int32) (h : Fm w q) : dAll (zX10_laysDist_97 n q x1 x2) (fun o => Fm w o) := by
  unfold zX10_laysDist_97
  exact dA_fix (fun (a : dS × Int32 × Int32) => Fm w a.1) (fun k hk a ha => lm_zX10_laysDist_97b w  _ (fun q x1 x2 hq => hk (q, x1, x2) hq) a.1 a.2.1 a.2.2 ha) n _ h

theorem lm_zX10_laysDist_89 (w : dS) (k8 : dS → Int32 → Int32 → Option (dS)) (hk8 : ∀ (y0 : dS) (y1 : Int32) (y2 : Int32), Fm w y0 → dAll (k8 y0 y1 y2) (fun o => Fm w o)) (q : dS) (x1 : Int32) (x2 : Int32) (h : Fm w q) : dAll (zX10_laysDist_89 k8 q x1 x2) (fun o => Fm w o) := by
  unfold zX10_laysDist_89
  exact hk8 q x1 (x2 + 1) h

theorem lm_zX10_laysDist_71 (w : dS) (k8 : dS → Int32 → Int32 → Option (dS)) (hk8 : ∀ (y0 : dS) (y1 : Int32) (y2 : Int32), Fm w y0 → dAll (k8 y0 y1 y2) (fun o => Fm w o)) (q : dS) (x1 : Int32) (x2 : Int32) (x3 : Int32) (y0 : Int32) (y1 : Int32) (h : Fm w q) : dAll (zX10_laysDist_71 k8 q x1 x2 x3 y0 y1) (fun o => Fm w o) := by
  unfold zX10_laysDist_71
  refine dA_G (fun _ => ?_)
  refine dA_L (fun q2 e_1 => ?_)
  have hq2 : Fm w q2 := by rw [e_1]; exact (fm_r (by decide) h)
  refine dA_if (fun _ => ?_) (fun _ => ?_)
  · exact lm_zX10_laysDist_89 w k8 hk8 q2 x1 x2 hq2
  · refine dA_G (fun _ => ?_)
    refine dA_L (fun q4 e_2 => ?_)
    have hq4 : Fm w q4 := by rw [e_2]; exact (fm_r (by decide) hq2)
    exact lm_zX10_laysDist_89 w k8 hk8 q4 (x1 + 1) x2 hq4

theorem lm_zX10_laysDist_56 (w : dS) (k8 : dS → Int32 → Int32 → Option (dS)) (hk8 : ∀ (y0 : dS) (y1 : Int32) (y2 : Int32), Fm w y0 → dAll (k8 y0 y1 y2) (fun o => Fm w o)) (q : dS) (x1 : Int32) (x2 : Int32) (x3 : Int32) (y0 : Int32) (y1 : Int32) (h : Fm w q) : dAll (zX10_laysDist_56 k8 q x1 x2 x3 y0 y1) (fun o => Fm w o) := by
  unfold zX10_laysDist_56
  refine dA_G (fun _ => ?_)
  refine dA_L (fun q2 e_1 => ?_)
  have hq2 : Fm w q2 := by rw [e_1]; exact (fm_r (by decide) h)
  refine dA_if (fun _ => ?_) (fun _ => ?_)
  · exact lm_zX10_laysDist_71 w k8 hk8 q2 x1 x2 x3 0 x2 hq2
  · exact lm_zX10_laysDist_71 w k8 hk8 q2 x1 x2 x3 1 x2 hq2

theorem lm_zX10_laysDist_40 (w : dS) (k8 : dS → Int32 → Int32 → Option (dS)) (hk8 : ∀ (y0 : dS) (y1 : Int32) (y2 : Int32), Fm w y0 → dAll (k8 y0 y1 y2) (fun o => Fm w o)) (q : dS) (x1 : Int32) (x2 : Int32) (y0 : Int32) (h : Fm w q) : dAll (zX10_laysDist_40 k8 q x1 x2 y0) (fun o => Fm w o) := by
  unfold zX10_laysDist_40
  refine dA_if (fun _ => ?_) (fun _ => ?_)
  · exact lm_zX10_laysDist_56 w k8 hk8 q x1 x2 y0 1000000 x2 h
  · exact lm_zX10_laysDist_56 w k8 hk8 q x1 x2 y0 0 x2 h

theorem lm_zX10_laysDist_39 (w : dS) (k8 : dS → Int32 → Int32 → Option (dS)) (hk8 : ∀ (y0 : dS) (y1 : Int32) (y2 : Int32), Fm w y0 → dAll (k8 y0 y1 y2) (fun o => Fm w o)) (q : dS) (x1 : Int32) (x2 : Int32) (h : Fm w q) : dAll (zX10_laysDist_39 k8 q x1 x2) (fun o => Fm w o) := by
  unfold zX10_laysDist_39
  exact lm_zX10_laysDist_40 w k8 hk8 q x1 x2 0 h

theorem lm_zX10_laysDist_8b (w : dS) (k8 : dS → Int32 → Int32 → Option (dS)) (hk8 : ∀ (y0 : dS) (y1 : Int32) (y2 : Int32), Fm w y0 → dAll (k8 y0 y1 y2) (fun o => Fm w o)) (q : dS) (x1 : Int32) (x2 : Int32) (h : Fm w q) : dAll (zX10_laysDist_8b k8 q x1 x2) (fun o => Fm w o) := by
  unfold zX10_laysDist_8b
  refine dA_if (fun _ => ?_) (fun _ => ?_)
  · exact lm_zX10_laysDist_97 w dF q x1 0 h
  · refine dA_B (lm_zX10_isThere w q x2 h) (fun r1 q3 hq3 => ?_)
    refine dA_if (fun _ => ?_) (fun _ => ?_)
    · exact lm_zX10_laysDist_39 w k8 hk8 q3 x1 x2 hq3
    · refine dA_B (lm_zX10_isOrdered w q3 x2 hq3) (fun r4 q6 hq6 => ?_)
      refine dA_if (fun _ => ?_) (fun _ => ?_)
      · exact lm_zX10_laysDist_39 w k8 hk8 q6 x1 x2 hq6
      · exact lm_zX10_laysDist_40 w k8 hk8 q6 x1 x2 1 hq6

theorem lm_zX10_laysDist_8 (w : dS) (n : Nat) (q : dS) (x1 : Int32) (x2 : Int32) (h : Fm w q) : dAll (zX10_laysDist_8 n q x1 x2) (fun o => Fm w o) := by
  unfold zX10_laysDist_8
  exact dA_fix (fun (a : dS × Int32 × Int32) => Fm w a.1) (fun k hk a ha => lm_zX10_laysDist_8b w  _ (fun q x1 x2 hq => hk (q, x1, x2) hq) a.1 a.2.1 a.2.2 ha) n _ h

theorem lm_zX10_laysDist (w : dS) (q : dS) (h : Fm w q) : dAll (zX10_laysDist q) (fun o => Fm w o) := by
  unfold zX10_laysDist
  refine dA_V (lm_zX10_laysPrices w q h) (fun q3 hq3 => ?_)
  exact lm_zX10_laysDist_8 w dF q3 0 0 hq3

theorem lm_zX10_fewest_111 (w : dS) (k71 : dS → Int32 → Int32 → Int32 → Int32 → Option (Int32 × dS)) (hk71 : ∀ (y0 : dS) (y1 : Int32) (y2 : Int32) (y3 : Int32) (y4 : Int32), Fm w y0 → dAll (k71 y0 y1 y2 y3 y4) (fun o => Fm w o.2)) (k79 : dS → Int32 → Int32 → Int32 → Int32 → Option (Int32 × dS)) (hk79 : ∀ (y0 : dS) (y1 : Int32) (y2 : Int32) (y3 : Int32) (y4 : Int32), Fm w y0 → dAll (k79 y0 y1 y2 y3 y4) (fun o => Fm w o.2)) (q : dS) (x1 : Int32) (x2 : Int32) (x3 : Int32) (x4 : Int32) (h : Fm w q) : dAll (zX10_fewest_111 k71 k79 q x1 x2 x3 x4) (fun o => Fm w o.2) := by
  unfold zX10_fewest_111
  exact hk79 q x1 x2 (x3 + 1) x4 h

theorem lm_zX10_fewest_79b (w : dS) (k71 : dS → Int32 → Int32 → Int32 → Int32 → Option (Int32 × dS)) (hk71 : ∀ (y0 : dS) (y1 : Int32) (y2 : Int32) (y3 : Int32) (y4 : Int32), Fm w y0 → dAll (k71 y0 y1 y2 y3 y4) (fun o => Fm w o.2)) (k79 : dS → Int32 → Int32 → Int32 → Int32 → Option (Int32 × dS)) (hk79 : ∀ (y0 : dS) (y1 : Int32) (y2 : Int32) (y3 : Int32) (y4 : Int32), Fm w y0 → dAll (k79 y0 y1 y2 y3 y4) (fun o => Fm w o.2)) (q : dS) (x1 : Int32) (x2 : Int32) (x3 : Int32) (x4 : Int32) (h : Fm w q) : dAll (zX10_fewest_79b k71 k79 q x1 x2 x3 x4) (fun o => Fm w o.2) := by
  unfold zX10_fewest_79b
  refine dA_B (lm_zX10_priceOf w q x2 x3 h) (fun r1 q3 hq3 => ?_)
  refine dA_if (fun _ => ?_) (fun _ => ?_)
  · exact lm_zX10_fewest_111 w k71 hk71 k79 hk79 q3 x1 x2 x3 x4 hq3
  · refine dA_B (lm_zX10_behind w q3 x2 x3 hq3) (fun r4 q6 hq6 => ?_)
    refine dA_G (fun _ => ?_)
    refine dA_L (fun v8 e_1 => ?_)
    refine dA_G (fun _ => ?_)
    refine dA_L (fun v10 e_2 => ?_)
    refine dA_if (fun _ => ?_) (fun _ => ?_)
    · refine dA_B (lm_zX10_behind w q6 x2 x3 hq6) (fun r11 q13 hq13 => ?_)
      exact hk71 q13 x1 r11 x3 (x4 + 1) hq13
    · exact lm_zX10_fewest_111 w k71 hk71 k79 hk79 q6 x1 x2 x3 x4 hq6

theorem lm_zX10_fewest_79 (w : dS) (k71 : dS → Int32 → Int32 → Int32 → Int32 → Option (Int32 × dS)) (hk71 : ∀ (y0 : dS) (y1 : Int32) (y2 : Int32) (y3 : Int32) (y4 : Int32), Fm w y0 → dAll (k71 y0 y1 y2 y3 y4) (fun o => Fm w o.2)) (n : Nat) (q : dS) (x1 : Int32) (x2 : Int32) (x3 : Int32) (x4 : Int32) (h : Fm w q) : dAll (zX10_fewest_79 k71 n q x1 x2 x3 x4) (fun o => Fm w o.2) := by
  unfold zX10_fewest_79
  exact dA_fix (fun (a : dS × Int32 × Int32 × Int32 × Int32) => Fm w a.1) (fun k hk a ha => lm_zX10_fewest_79b w k71 hk71 _ (fun q x1 x2 x3 x4 hq => hk (q, x1, x2, x3, x4) hq) a.1 a.2.1 a.2.2.1 a.2.2.2.1 a.2.2.2.2 ha) n _ h

theorem lm_zX10_fewest_71b (w : dS) (k71 : dS → Int32 → Int32 → Int32 → Int32 → Option (Int32 × dS)) (hk71 : ∀ (y0 : dS) (y1 : Int32) (y2 : Int32) (y3 : Int32) (y4 : Int32), Fm w y0 → dAll (k71 y0 y1 y2 y3 y4) (fun o => Fm w o.2)) (q : dS) (x1 : Int32) (x2 : Int32) (x3 : Int32) (x4 : Int32) (h : Fm w q) : dAll (zX10_fewest_71b k71 q x1 x2 x3 x4) (fun o => Fm w o.2) := by
  unfold zX10_fewest_71b
  refine dA_if (fun _ => ?_) (fun _ => ?_)
  · exact dA_some h
  · exact lm_zX10_fewest_79 w k71 hk71 dF q x1 x2 1 x4 h

theorem lm_zX10_fewest_71 (w : dS) (n : Nat) (q : dS) (x1 : Int32) (x2 : Int32) (x3 : Int32) (x4 : Int32) (h : Fm w q) : dAll (zX10_fewest_71 n q x1 x2 x3 x4) (fun o => Fm w o.2) := by
  unfold zX10_fewest_71
  exact dA_fix (fun (a : dS × Int32 × Int32 × Int32 × Int32) => Fm w a.1) (fun k hk a ha => lm_zX10_fewest_71b w  _ (fun q x1 x2 x3 x4 hq => hk (q, x1, x2, x3, x4) hq) a.1 a.2.1 a.2.2.1 a.2.2.2.1 a.2.2.2.2 ha) n _ h

theorem lm_zX10_fewest_53 (w : dS) (q : dS) (y0 : Int32) (h : Fm w q) : dAll (zX10_fewest_53 q y0) (fun o => Fm w o.2) := by
  unfold zX10_fewest_53
  exact dA_some h

theorem lm_zX10_fewest_32 (w : dS) (q : dS) (x2 : Int32) (h : Fm w q) : dAll (zX10_fewest_32 q x2) (fun o => Fm w o.2) := by
  unfold zX10_fewest_32
  refine dA_G (fun _ => ?_)
  refine dA_L (fun v2 e_1 => ?_)
  refine dA_if (fun _ => ?_) (fun _ => ?_)
  · exact lm_zX10_fewest_53 w q (-1) h
  · refine dA_G (fun _ => ?_)
    refine dA_L (fun v4 e_2 => ?_)
    exact lm_zX10_fewest_53 w q v4 h

theorem lm_zX10_fewest (w : dS) (q : dS) (p1 : Int32) (h : Fm w q) : dAll (zX10_fewest q p1) (fun o => Fm w o.2) := by
  unfold zX10_fewest
  refine dA_if (fun _ => ?_) (fun _ => ?_)
  · refine dA_V (lm_zX10_laysDist w q h) (fun q3 hq3 => ?_)
    refine dA_B (lm_zX10_towerNow w q3 hq3) (fun r4 q6 hq6 => ?_)
    refine dA_G (fun _ => ?_)
    refine dA_L (fun v8 e_1 => ?_)
    refine dA_if (fun _ => ?_) (fun _ => ?_)
    · exact lm_zX10_fewest_32 w q6 r4 hq6
    · refine dA_if (fun _ => ?_) (fun _ => ?_)
      · exact lm_zX10_fewest_32 w q6 r4 hq6
      · refine dA_G (fun _ => ?_)
        refine dA_L (fun v10 e_2 => ?_)
        refine dA_if (fun _ => ?_) (fun _ => ?_)
        · exact lm_zX10_fewest_71 w dF q6 p1 r4 0 0 hq6
        · exact dA_some hq6
  · exact dA_some h

theorem lm_zX10_many (w : dS) (q : dS) (h : Fm w q) : dAll (zX10_many q) (fun o => Fm w o.2) := by
  unfold zX10_many
  refine dA_V (lm_zX10_laysDist w q h) (fun q3 hq3 => ?_)
  refine dA_B (lm_zX10_towerNow w q3 hq3) (fun r4 q6 hq6 => ?_)
  refine dA_G (fun _ => ?_)
  refine dA_L (fun v8 e_1 => ?_)
  exact dA_some hq6

theorem lm_zX10_worst_135 (w : dS) (q : dS) (y0 : Int32) (h : Fm w q) : dAll (zX10_worst_135 q y0) (fun o => Fm w o.2) := by
  unfold zX10_worst_135
  exact dA_some h

theorem lm_zX10_worst_110 (w : dS) (k25 : dS → Int32 → Int32 → Int32 → Int32 → Int32 → Option (Int32 × dS)) (hk25 : ∀ (y0 : dS) (y1 : Int32) (y2 : Int32) (y3 : Int32) (y4 : Int32) (y5 : Int32), Fm w y0 → dAll (k25 y0 y1 y2 y3 y4 y5) (fun o => Fm w o.2)) (q : dS) (x1 : Int32) (x2 : Int32) (x3 : Int32) (x4 : Int32) (x5 : Int32) (h : Fm w q) : dAll (zX10_worst_110 k25 q x1 x2 x3 x4 x5) (fun o => Fm w o.2) := by
  unfold zX10_worst_110
  exact hk25 q x1 x2 x3 x4 (x5 + 1) h

theorem lm_zX10_worst_94 (w : dS) (k25 : dS → Int32 → Int32 → Int32 → Int32 → Int32 → Option (Int32 × dS)) (hk25 : ∀ (y0 : dS) (y1 : Int32) (y2 : Int32) (y3 : Int32) (y4 : Int32) (y5 : Int32), Fm w y0 → dAll (k25 y0 y1 y2 y3 y4 y5) (fun o => Fm w o.2)) (q : dS) (x1 : Int32) (x2 : Int32) (x4 : Int32) (x5 : Int32) (y0 : Int32) (h : Fm w q) : dAll (zX10_worst_94 k25 q x1 x2 x4 x5 y0) (fun o => Fm w o.2) := by
  unfold zX10_worst_94
  refine dA_G (fun _ => ?_)
  refine dA_L (fun v2 e_1 => ?_)
  refine dA_V dA_tr (fun r3 _ => ?_)
  exact lm_zX10_worst_110 w k25 hk25 q x1 r3 y0 (x4 + 1) x5 h

theorem lm_zX10_worst_25b (w : dS) (k25 : dS → Int32 → Int32 → Int32 → Int32 → Int32 → Option (Int32 × dS)) (hk25 : ∀ (y0 : dS) (y1 : Int32) (y2 : Int32) (y3 : Int32) (y4 : Int32) (y5 : Int32), Fm w y0 → dAll (k25 y0 y1 y2 y3 y4 y5) (fun o => Fm w o.2)) (q : dS) (x1 : Int32) (x2 : Int32) (x3 : Int32) (x4 : Int32) (x5 : Int32) (h : Fm w q) : dAll (zX10_worst_25b k25 q x1 x2 x3 x4 x5) (fun o => Fm w o.2) := by
  unfold zX10_worst_25b
  refine dA_if (fun _ => ?_) (fun _ => ?_)
  · refine dA_if (fun _ => ?_) (fun _ => ?_)
    · exact lm_zX10_worst_135 w q x2 h
    · refine dA_if (fun _ => ?_) (fun _ => ?_)
      · exact lm_zX10_worst_135 w q x3 h
      · exact lm_zX10_worst_135 w q x4 h
  · refine dA_B (lm_zX10_isThere w q x5 h) (fun r1 q3 hq3 => ?_)
    refine dA_if (fun _ => ?_) (fun _ => ?_)
    · exact lm_zX10_worst_110 w k25 hk25 q3 x1 x2 x3 x4 x5 hq3
    · refine dA_G (fun _ => ?_)
      refine dA_L (fun v5 e_1 => ?_)
      refine dA_if (fun _ => ?_) (fun _ => ?_)
      · exact lm_zX10_worst_110 w k25 hk25 q3 x1 x2 x3 x4 x5 hq3
      · refine dA_G (fun _ => ?_)
        refine dA_L (fun v7 e_2 => ?_)
        refine dA_if (fun _ => ?_) (fun _ => ?_)
        · refine dA_G (fun _ => ?_)
          refine dA_L (fun v9 e_3 => ?_)
          refine dA_if (fun _ => ?_) (fun _ => ?_)
          · exact lm_zX10_worst_94 w k25 hk25 q3 x1 x2 x4 x5 (x3 + 1 : Int32) hq3
          · exact lm_zX10_worst_94 w k25 hk25 q3 x1 x2 x4 x5 x3 hq3
        · exact lm_zX10_worst_94 w k25 hk25 q3 x1 x2 x4 x5 1 hq3

theorem lm_zX10_worst_25 (w : dS) (n : Nat) (q : dS) (x1 : Int32) (x2 : Int32) (x3 : Int32) (x4 : Int32) (x5 : Int32) (h : Fm w q) : dAll (zX10_worst_25 n q x1 x2 x3 x4 x5) (fun o => Fm w o.2) := by
  unfold zX10_worst_25
  exact dA_fix (fun (a : dS × Int32 × Int32 × Int32 × Int32 × Int32) => Fm w a.1) (fun k hk a ha => lm_zX10_worst_25b w  _ (fun q x1 x2 x3 x4 x5 hq => hk (q, x1, x2, x3, x4, x5) hq) a.1 a.2.1 a.2.2.1 a.2.2.2.1 a.2.2.2.2.1 a.2.2.2.2.2 ha) n _ h

theorem lm_zX10_worst (w : dS) (q : dS) (p1 : Int32) (h : Fm w q) : dAll (zX10_worst q p1) (fun o => Fm w o.2) := by
  unfold zX10_worst
  refine dA_V dA_tr (fun r1 _ => ?_)
  refine dA_if (fun _ => ?_) (fun _ => ?_)
  · exact dA_some h
  · refine dA_V (lm_zX10_laysDist w q h) (fun q5 hq5 => ?_)
    exact lm_zX10_worst_25 w dF q5 p1 0 0 0 0 hq5

theorem lm_zX10_cheapest_259 (w : dS) (q : dS) (y0 : Int32) (h : Fm w q) : dAll (zX10_cheapest_259 q y0) (fun o => Fm w o.2) := by
  unfold zX10_cheapest_259
  exact dA_some h

theorem lm_zX10_cheapest_229 (w : dS) (k89 : dS → Int32 → Int32 → Option (Int32 × dS)) (hk89 : ∀ (y0 : dS) (y1 : Int32) (y2 : Int32), Fm w y0 → dAll (k89 y0 y1 y2) (fun o => Fm w o.2)) (k120 : dS → Int32 → Int32 → Int32 → Int32 → Option (Int32 × dS)) (hk120 : ∀ (y0 : dS) (y1 : Int32) (y2 : Int32) (y3 : Int32) (y4 : Int32), Fm w y0 → dAll (k120 y0 y1 y2 y3 y4) (fun o => Fm w o.2)) (q : dS) (x1 : Int32) (x2 : Int32) (x3 : Int32) (x4 : Int32) (h : Fm w q) : dAll (zX10_cheapest_229 k89 k120 q x1 x2 x3 x4) (fun o => Fm w o.2) := by
  unfold zX10_cheapest_229
  exact hk120 q x1 x2 x3 (x4 + 1) h

theorem lm_zX10_cheapest_120b (w : dS) (k89 : dS → Int32 → Int32 → Option (Int32 × dS)) (hk89 : ∀ (y0 : dS) (y1 : Int32) (y2 : Int32), Fm w y0 → dAll (k89 y0 y1 y2) (fun o => Fm w o.2)) (k120 : dS → Int32 → Int32 → Int32 → Int32 → Option (Int32 × dS)) (hk120 : ∀ (y0 : dS) (y1 : Int32) (y2 : Int32) (y3 : Int32) (y4 : Int32), Fm w y0 → dAll (k120 y0 y1 y2 y3 y4) (fun o => Fm w o.2)) (q : dS) (x1 : Int32) (x2 : Int32) (x3 : Int32) (x4 : Int32) (h : Fm w q) : dAll (zX10_cheapest_120b k89 k120 q x1 x2 x3 x4) (fun o => Fm w o.2) := by
  unfold zX10_cheapest_120b
  refine dA_B (lm_zX10_size w q h) (fun r1 q3 hq3 => ?_)
  refine dA_if (fun _ => ?_) (fun _ => ?_)
  · exact hk89 q3 x1 x2 hq3
  · refine dA_B (lm_zX10_behind w q3 x3 x4 hq3) (fun r4 q6 hq6 => ?_)
    refine dA_B (lm_zX10_priceOf w q6 r4 x4 hq6) (fun r7 q9 hq9 => ?_)
    refine dA_if (fun _ => ?_) (fun _ => ?_)
    · exact lm_zX10_cheapest_229 w k89 hk89 k120 hk120 q9 x1 x2 x3 x4 hq9
    · refine dA_G (fun _ => ?_)
      refine dA_L (fun v11 e_1 => ?_)
      refine dA_G (fun _ => ?_)
      refine dA_L (fun v13 e_2 => ?_)
      refine dA_if (fun _ => ?_) (fun _ => ?_)
      · refine dA_G (fun _ => ?_)
        refine dA_L (fun v15 e_3 => ?_)
        refine dA_G (fun _ => ?_)
        refine dA_L (fun q17 e_4 => ?_)
        have hq17 : Fm w q17 := by rw [e_4]; exact (fm_r (by decide) hq9)
        refine dA_G (fun _ => ?_)
        refine dA_L (fun v19 e_5 => ?_)
        refine dA_if (fun _ => ?_) (fun _ => ?_)
        · refine dA_G (fun _ => ?_)
          refine dA_L (fun q21 e_6 => ?_)
          have hq21 : Fm w q21 := by rw [e_6]; exact (fm_r (by decide) hq17)
          refine dA_G (fun _ => ?_)
          refine dA_L (fun q23 e_7 => ?_)
          have hq23 : Fm w q23 := by rw [e_7]; exact (fm_r (by decide) hq21)
          exact lm_zX10_cheapest_229 w k89 hk89 k120 hk120 q23 (x1 + 1) x2 x3 x4 hq23
        · exact lm_zX10_cheapest_229 w k89 hk89 k120 hk120 q17 x1 x2 x3 x4 hq17
      · exact lm_zX10_cheapest_229 w k89 hk89 k120 hk120 q9 x1 x2 x3 x4 hq9

theorem lm_zX10_cheapest_120 (w : dS) (k89 : dS → Int32 → Int32 → Option (Int32 × dS)) (hk89 : ∀ (y0 : dS) (y1 : Int32) (y2 : Int32), Fm w y0 → dAll (k89 y0 y1 y2) (fun o => Fm w o.2)) (n : Nat) (q : dS) (x1 : Int32) (x2 : Int32) (x3 : Int32) (x4 : Int32) (h : Fm w q) : dAll (zX10_cheapest_120 k89 n q x1 x2 x3 x4) (fun o => Fm w o.2) := by
  unfold zX10_cheapest_120
  exact dA_fix (fun (a : dS × Int32 × Int32 × Int32 × Int32) => Fm w a.1) (fun k hk a ha => lm_zX10_cheapest_120b w k89 hk89 _ (fun q x1 x2 x3 x4 hq => hk (q, x1, x2, x3, x4) hq) a.1 a.2.1 a.2.2.1 a.2.2.2.1 a.2.2.2.2 ha) n _ h

theorem lm_zX10_cheapest_89b (w : dS) (k89 : dS → Int32 → Int32 → Option (Int32 × dS)) (hk89 : ∀ (y0 : dS) (y1 : Int32) (y2 : Int32), Fm w y0 → dAll (k89 y0 y1 y2) (fun o => Fm w o.2)) (q : dS) (x1 : Int32) (x2 : Int32) (h : Fm w q) : dAll (zX10_cheapest_89b k89 q x1 x2) (fun o => Fm w o.2) := by
  unfold zX10_cheapest_89b
  refine dA_if (fun _ => ?_) (fun _ => ?_)
  · refine dA_B (lm_zX10_towerNow w q h) (fun r1 q3 hq3 => ?_)
    refine dA_G (fun _ => ?_)
    refine dA_L (fun v5 e_1 => ?_)
    refine dA_if (fun _ => ?_) (fun _ => ?_)
    · exact lm_zX10_cheapest_259 w q3 (-1) hq3
    · exact lm_zX10_cheapest_259 w q3 v5 hq3
  · refine dA_G (fun _ => ?_)
    refine dA_L (fun v7 e_2 => ?_)
    refine dA_L (fun v8 e_3 => ?_)
    refine dA_G (fun _ => ?_)
    refine dA_L (fun q10 e_4 => ?_)
    have hq10 : Fm w q10 := by rw [e_4]; exact (fm_r (by decide) h)
    exact lm_zX10_cheapest_120 w k89 hk89 dF q10 (x1 + (-1)) v8 v7 1 hq10

theorem lm_zX10_cheapest_89 (w : dS) (n : Nat) (q : dS) (x1 : Int32) (x2 : Int32) (h : Fm w q) : dAll (zX10_cheapest_89 n q x1 x2) (fun o => Fm w o.2) := by
  unfold zX10_cheapest_89
  exact dA_fix (fun (a : dS × Int32 × Int32) => Fm w a.1) (fun k hk a ha => lm_zX10_cheapest_89b w  _ (fun q x1 x2 hq => hk (q, x1, x2) hq) a.1 a.2.1 a.2.2 ha) n _ h

theorem lm_zX10_cheapest_81 (w : dS) (k8 : dS → Int32 → Int32 → Option (Int32 × dS)) (hk8 : ∀ (y0 : dS) (y1 : Int32) (y2 : Int32), Fm w y0 → dAll (k8 y0 y1 y2) (fun o => Fm w o.2)) (q : dS) (x1 : Int32) (x2 : Int32) (h : Fm w q) : dAll (zX10_cheapest_81 k8 q x1 x2) (fun o => Fm w o.2) := by
  unfold zX10_cheapest_81
  exact hk8 q x1 (x2 + 1) h

theorem lm_zX10_cheapest_56 (w : dS) (k8 : dS → Int32 → Int32 → Option (Int32 × dS)) (hk8 : ∀ (y0 : dS) (y1 : Int32) (y2 : Int32), Fm w y0 → dAll (k8 y0 y1 y2) (fun o => Fm w o.2)) (q : dS) (x1 : Int32) (x2 : Int32) (x3 : Int32) (y0 : Int32) (y1 : Int32) (h : Fm w q) : dAll (zX10_cheapest_56 k8 q x1 x2 x3 y0 y1) (fun o => Fm w o.2) := by
  unfold zX10_cheapest_56
  refine dA_G (fun _ => ?_)
  refine dA_L (fun q2 e_1 => ?_)
  have hq2 : Fm w q2 := by rw [e_1]; exact (fm_r (by decide) h)
  refine dA_G (fun _ => ?_)
  refine dA_L (fun q4 e_2 => ?_)
  have hq4 : Fm w q4 := by rw [e_2]; exact (fm_r (by decide) hq2)
  refine dA_if (fun _ => ?_) (fun _ => ?_)
  · exact lm_zX10_cheapest_81 w k8 hk8 q4 x1 x2 hq4
  · refine dA_G (fun _ => ?_)
    refine dA_L (fun q6 e_3 => ?_)
    have hq6 : Fm w q6 := by rw [e_3]; exact (fm_r (by decide) hq4)
    exact lm_zX10_cheapest_81 w k8 hk8 q6 (x1 + 1) x2 hq6

theorem lm_zX10_cheapest_40 (w : dS) (k8 : dS → Int32 → Int32 → Option (Int32 × dS)) (hk8 : ∀ (y0 : dS) (y1 : Int32) (y2 : Int32), Fm w y0 → dAll (k8 y0 y1 y2) (fun o => Fm w o.2)) (q : dS) (x1 : Int32) (x2 : Int32) (y0 : Int32) (h : Fm w q) : dAll (zX10_cheapest_40 k8 q x1 x2 y0) (fun o => Fm w o.2) := by
  unfold zX10_cheapest_40
  refine dA_if (fun _ => ?_) (fun _ => ?_)
  · exact lm_zX10_cheapest_56 w k8 hk8 q x1 x2 y0 1000000 x2 h
  · exact lm_zX10_cheapest_56 w k8 hk8 q x1 x2 y0 0 x2 h

theorem lm_zX10_cheapest_39 (w : dS) (k8 : dS → Int32 → Int32 → Option (Int32 × dS)) (hk8 : ∀ (y0 : dS) (y1 : Int32) (y2 : Int32), Fm w y0 → dAll (k8 y0 y1 y2) (fun o => Fm w o.2)) (q : dS) (x1 : Int32) (x2 : Int32) (h : Fm w q) : dAll (zX10_cheapest_39 k8 q x1 x2) (fun o => Fm w o.2) := by
  unfold zX10_cheapest_39
  exact lm_zX10_cheapest_40 w k8 hk8 q x1 x2 0 h

theorem lm_zX10_cheapest_8b (w : dS) (k8 : dS → Int32 → Int32 → Option (Int32 × dS)) (hk8 : ∀ (y0 : dS) (y1 : Int32) (y2 : Int32), Fm w y0 → dAll (k8 y0 y1 y2) (fun o => Fm w o.2)) (q : dS) (x1 : Int32) (x2 : Int32) (h : Fm w q) : dAll (zX10_cheapest_8b k8 q x1 x2) (fun o => Fm w o.2) := by
  unfold zX10_cheapest_8b
  refine dA_if (fun _ => ?_) (fun _ => ?_)
  · exact lm_zX10_cheapest_89 w dF q x1 0 h
  · refine dA_B (lm_zX10_isThere w q x2 h) (fun r1 q3 hq3 => ?_)
    refine dA_if (fun _ => ?_) (fun _ => ?_)
    · exact lm_zX10_cheapest_39 w k8 hk8 q3 x1 x2 hq3
    · refine dA_B (lm_zX10_isOrdered w q3 x2 hq3) (fun r4 q6 hq6 => ?_)
      refine dA_if (fun _ => ?_) (fun _ => ?_)
      · exact lm_zX10_cheapest_39 w k8 hk8 q6 x1 x2 hq6
      · exact lm_zX10_cheapest_40 w k8 hk8 q6 x1 x2 1 hq6

theorem lm_zX10_cheapest_8 (w : dS) (n : Nat) (q : dS) (x1 : Int32) (x2 : Int32) (h : Fm w q) : dAll (zX10_cheapest_8 n q x1 x2) (fun o => Fm w o.2) := by
  unfold zX10_cheapest_8
  exact dA_fix (fun (a : dS × Int32 × Int32) => Fm w a.1) (fun k hk a ha => lm_zX10_cheapest_8b w  _ (fun q x1 x2 hq => hk (q, x1, x2) hq) a.1 a.2.1 a.2.2 ha) n _ h

theorem lm_zX10_cheapest (w : dS) (q : dS) (h : Fm w q) : dAll (zX10_cheapest q) (fun o => Fm w o.2) := by
  unfold zX10_cheapest
  refine dA_V (lm_zX10_laysPrices w q h) (fun q3 hq3 => ?_)
  exact lm_zX10_cheapest_8 w dF q3 0 0 hq3

theorem lm_zX10_laysReach_146 (w : dS) (k57 : dS → Int32 → Int32 → Option (Int32 × dS)) (hk57 : ∀ (y0 : dS) (y1 : Int32) (y2 : Int32), Fm w y0 → dAll (k57 y0 y1 y2) (fun o => Fm w o.2)) (k64 : dS → Int32 → Int32 → Int32 → Option (Int32 × dS)) (hk64 : ∀ (y0 : dS) (y1 : Int32) (y2 : Int32) (y3 : Int32), Fm w y0 → dAll (k64 y0 y1 y2 y3) (fun o => Fm w o.2)) (q : dS) (x1 : Int32) (x2 : Int32) (x3 : Int32) (h : Fm w q) : dAll (zX10_laysReach_146 k57 k64 q x1 x2 x3) (fun o => Fm w o.2) := by
  unfold zX10_laysReach_146
  exact hk64 q x1 x2 (x3 + 1) h

theorem lm_zX10_laysReach_64b (w : dS) (k57 : dS → Int32 → Int32 → Option (Int32 × dS)) (hk57 : ∀ (y0 : dS) (y1 : Int32) (y2 : Int32), Fm w y0 → dAll (k57 y0 y1 y2) (fun o => Fm w o.2)) (k64 : dS → Int32 → Int32 → Int32 → Option (Int32 × dS)) (hk64 : ∀ (y0 : dS) (y1 : Int32) (y2 : Int32) (y3 : Int32), Fm w y0 → dAll (k64 y0 y1 y2 y3) (fun o => Fm w o.2)) (q : dS) (x1 : Int32) (x2 : Int32) (x3 : Int32) (h : Fm w q) : dAll (zX10_laysReach_64b k57 k64 q x1 x2 x3) (fun o => Fm w o.2) := by
  unfold zX10_laysReach_64b
  refine dA_B (lm_zX10_size w q h) (fun r1 q3 hq3 => ?_)
  refine dA_if (fun _ => ?_) (fun _ => ?_)
  · exact hk57 q3 x1 (x2 + 1) hq3
  · refine dA_G (fun _ => ?_)
    refine dA_L (fun v5 e_1 => ?_)
    refine dA_B (lm_zX10_behind w q3 v5 x3 hq3) (fun r6 q8 hq8 => ?_)
    refine dA_G (fun _ => ?_)
    refine dA_L (fun v10 e_2 => ?_)
    refine dA_B (lm_zX10_priceOf w q8 v10 x3 hq8) (fun r11 q13 hq13 => ?_)
    refine dA_if (fun _ => ?_) (fun _ => ?_)
    · exact lm_zX10_laysReach_146 w k57 hk57 k64 hk64 q13 x1 x2 x3 hq13
    · refine dA_G (fun _ => ?_)
      refine dA_L (fun v15 e_3 => ?_)
      refine dA_if (fun _ => ?_) (fun _ => ?_)
      · refine dA_G (fun _ => ?_)
        refine dA_L (fun v17 e_4 => ?_)
        refine dA_G (fun _ => ?_)
        refine dA_L (fun v19 e_5 => ?_)
        refine dA_G (fun _ => ?_)
        refine dA_L (fun q21 e_6 => ?_)
        have hq21 : Fm w q21 := by rw [e_6]; exact (fm_r (by decide) hq13)
        refine dA_G (fun _ => ?_)
        refine dA_L (fun q23 e_7 => ?_)
        have hq23 : Fm w q23 := by rw [e_7]; exact (fm_r (by decide) hq21)
        exact lm_zX10_laysReach_146 w k57 hk57 k64 hk64 q23 (x1 + 1) x2 x3 hq23
      · exact lm_zX10_laysReach_146 w k57 hk57 k64 hk64 q13 x1 x2 x3 hq13

theorem lm_zX10_laysReach_64 (w : dS) (k57 : dS → Int32 → Int32 → Option (Int32 × dS)) (hk57 : ∀ (y0 : dS) (y1 : Int32) (y2 : Int32), Fm w y0 → dAll (k57 y0 y1 y2) (fun o => Fm w o.2)) (n : Nat) (q : dS) (x1 : Int32) (x2 : Int32) (x3 : Int32) (h : Fm w q) : dAll (zX10_laysReach_64 k57 n q x1 x2 x3) (fun o => Fm w o.2) := by
  unfold zX10_laysReach_64
  exact dA_fix (fun (a : dS × Int32 × Int32 × Int32) => Fm w a.1) (fun k hk a ha => lm_zX10_laysReach_64b w k57 hk57 _ (fun q x1 x2 x3 hq => hk (q, x1, x2, x3) hq) a.1 a.2.1 a.2.2.1 a.2.2.2 ha) n _ h

theorem lm_zX10_laysReach_57b (w : dS) (k57 : dS → Int32 → Int32 → Option (Int32 × dS)) (hk57 : ∀ (y0 : dS) (y1 : Int32) (y2 : Int32), Fm w y0 → dAll (k57 y0 y1 y2) (fun o => Fm w o.2)) (q : dS) (x1 : Int32) (x2 : Int32) (h : Fm w q) : dAll (zX10_laysReach_57b k57 q x1 x2) (fun o => Fm w o.2) := by
  unfold zX10_laysReach_57b
  refine dA_if (fun _ => ?_) (fun _ => ?_)
  · exact dA_some h
  · exact lm_zX10_laysReach_64 w k57 hk57 dF q x1 x2 1 h

theorem lm_zX10_laysReach_57 (w : dS) (n : Nat) (q : dS) (x1 : Int32) (x2 : Int32) (h : Fm w q) : dAll (zX10_laysReach_57 n q x1 x2) (fun o => Fm w o.2) := by
  unfold zX10_laysReach_57
  exact dA_fix (fun (a : dS × Int32 × Int32) => Fm w a.1) (fun k hk a ha => lm_zX10_laysReach_57b w  _ (fun q x1 x2 hq => hk (q, x1, x2) hq) a.1 a.2.1 a.2.2 ha) n _ h

theorem lm_zX10_laysReach_6b (w : dS) (k6 : dS → Int32 → Option (Int32 × dS)) (hk6 : ∀ (y0 : dS) (y1 : Int32), Fm w y0 → dAll (k6 y0 y1) (fun o => Fm w o.2)) (q : dS) (x1 : Int32) (h : Fm w q) : dAll (zX10_laysReach_6b k6 q x1) (fun o => Fm w o.2) := by
  unfold zX10_laysReach_6b
  refine dA_if (fun _ => ?_) (fun _ => ?_)
  · refine dA_B (lm_zX10_towerNow w q h) (fun r1 q3 hq3 => ?_)
    refine dA_L (fun q4 e_1 => ?_)
    have hq4 : Fm w q4 := by rw [e_1]; exact (fm_r (by decide) hq3)
    refine dA_G (fun _ => ?_)
    refine dA_L (fun q6 e_2 => ?_)
    have hq6 : Fm w q6 := by rw [e_2]; exact (fm_r (by decide) hq4)
    exact lm_zX10_laysReach_57 w dF q6 1 0 hq6
  · refine dA_G (fun _ => ?_)
    refine dA_L (fun q8 e_3 => ?_)
    have hq8 : Fm w q8 := by rw [e_3]; exact (fm_r (by decide) h)
    exact hk6 q8 (x1 + 1) hq8

theorem lm_zX10_laysReach_6 (w : dS) (n : Nat) (q : dS) (x1 : Int32) (h : Fm w q) : dAll (zX10_laysReach_6 n q x1) (fun o => Fm w o.2) := by
  unfold zX10_laysReach_6
  exact dA_fix (fun (a : dS × Int32) => Fm w a.1) (fun k hk a ha => lm_zX10_laysReach_6b w  _ (fun q x1 hq => hk (q, x1) hq) a.1 a.2 ha) n _ h

theorem lm_zX10_laysReach (w : dS) (q : dS) (h : Fm w q) : dAll (zX10_laysReach q) (fun o => Fm w o.2) := by
  unfold zX10_laysReach
  refine dA_V (lm_zX10_laysPrices w q h) (fun q3 hq3 => ?_)
  exact lm_zX10_laysReach_6 w dF q3 0 hq3

theorem lm_zX10_reach (w : dS) (q : dS) (h : Fm w q) : dAll (zX10_reach q) (fun o => Fm w o.2) := by
  unfold zX10_reach
  refine dA_B (lm_zX10_laysReach w q h) (fun r1 q3 hq3 => ?_)
  exact dA_some hq3

theorem lm_zX10_isOrder_121 (w : dS) (q : dS) (y0 : Int32) (h : Fm w q) : dAll (zX10_isOrder_121 q y0) (fun o => Fm w o.2) := by
  unfold zX10_isOrder_121
  refine dA_G (fun _ => ?_)
  exact dA_some h

theorem lm_zX10_isOrder_120 (w : dS) (q : dS) (h : Fm w q) : dAll (zX10_isOrder_120 q) (fun o => Fm w o.2) := by
  unfold zX10_isOrder_120
  exact lm_zX10_isOrder_121 w q 0 h

theorem lm_zX10_isOrder_95 (w : dS) (k23 : dS → Int32 → Int32 → Int32 → Int32 → Option (Int32 × dS)) (hk23 : ∀ (y0 : dS) (y1 : Int32) (y2 : Int32) (y3 : Int32) (y4 : Int32), Fm w y0 → dAll (k23 y0 y1 y2 y3 y4) (fun o => Fm w o.2)) (q : dS) (x2 : Int32) (x3 : Int32) (x4 : Int32) (x5 : Int32) (y0 : Int32) (y1 : Int32) (h : Fm w q) : dAll (zX10_isOrder_95 k23 q x2 x3 x4 x5 y0 y1) (fun o => Fm w o.2) := by
  unfold zX10_isOrder_95
  refine dA_G (fun _ => ?_)
  refine dA_L (fun q2 e_1 => ?_)
  have hq2 : Fm w q2 := by rw [e_1]; exact (fm_r (by decide) h)
  exact hk23 q2 (x2 / 10 : Int32) x3 x4 (x5 + (-1)) hq2

theorem lm_zX10_isOrder_61 (w : dS) (k23 : dS → Int32 → Int32 → Int32 → Int32 → Option (Int32 × dS)) (hk23 : ∀ (y0 : dS) (y1 : Int32) (y2 : Int32) (y3 : Int32) (y4 : Int32), Fm w y0 → dAll (k23 y0 y1 y2 y3 y4) (fun o => Fm w o.2)) (q : dS) (x2 : Int32) (x3 : Int32) (x5 : Int32) (y0 : Int32) (h : Fm w q) : dAll (zX10_isOrder_61 k23 q x2 x3 x5 y0) (fun o => Fm w o.2) := by
  unfold zX10_isOrder_61
  refine dA_L (fun v1 e_1 => ?_)
  refine dA_if (fun _ => ?_) (fun _ => ?_)
  · exact lm_zX10_isOrder_95 w k23 hk23 q x2 (x3 ||| v1) y0 x5 0 x5 h
  · refine dA_B (lm_zX10_lessThan w q (x2 - x2 / 10 * 10 : Int32) h) (fun r2 q4 hq4 => ?_)
    exact lm_zX10_isOrder_95 w k23 hk23 q4 x2 (x3 ||| v1) y0 x5 r2 x5 hq4

theorem lm_zX10_isOrder_60 (w : dS) (k23 : dS → Int32 → Int32 → Int32 → Int32 → Option (Int32 × dS)) (hk23 : ∀ (y0 : dS) (y1 : Int32) (y2 : Int32) (y3 : Int32) (y4 : Int32), Fm w y0 → dAll (k23 y0 y1 y2 y3 y4) (fun o => Fm w o.2)) (q : dS) (x2 : Int32) (x3 : Int32) (x5 : Int32) (h : Fm w q) : dAll (zX10_isOrder_60 k23 q x2 x3 x5) (fun o => Fm w o.2) := by
  unfold zX10_isOrder_60
  exact lm_zX10_isOrder_61 w k23 hk23 q x2 x3 x5 0 h

theorem lm_zX10_isOrder_23b (w : dS) (k23 : dS → Int32 → Int32 → Int32 → Int32 → Option (Int32 × dS)) (hk23 : ∀ (y0 : dS) (y1 : Int32) (y2 : Int32) (y3 : Int32) (y4 : Int32), Fm w y0 → dAll (k23 y0 y1 y2 y3 y4) (fun o => Fm w o.2)) (q : dS) (x2 : Int32) (x3 : Int32) (x4 : Int32) (x5 : Int32) (h : Fm w q) : dAll (zX10_isOrder_23b k23 q x2 x3 x4 x5) (fun o => Fm w o.2) := by
  unfold zX10_isOrder_23b
  refine dA_if (fun _ => ?_) (fun _ => ?_)
  · refine dA_if (fun _ => ?_) (fun _ => ?_)
    · exact lm_zX10_isOrder_120 w q h
    · refine dA_if (fun _ => ?_) (fun _ => ?_)
      · exact lm_zX10_isOrder_121 w q 1 h
      · exact lm_zX10_isOrder_120 w q h
  · refine dA_if (fun _ => ?_) (fun _ => ?_)
    · exact lm_zX10_isOrder_60 w k23 hk23 q x2 x3 x5 h
    · refine dA_B (lm_zX10_placeOf w q (x2 - x2 / 10 * 10 : Int32) h) (fun r1 q3 hq3 => ?_)
      refine dA_if (fun _ => ?_) (fun _ => ?_)
      · exact lm_zX10_isOrder_60 w k23 hk23 q3 x2 x3 x5 hq3
      · refine dA_V dA_tr (fun r4 _ => ?_)
        refine dA_if (fun _ => ?_) (fun _ => ?_)
        · exact lm_zX10_isOrder_61 w k23 hk23 q3 x2 x3 x5 1 hq3
        · exact lm_zX10_isOrder_60 w k23 hk23 q3 x2 x3 x5 hq3

theorem lm_zX10_isOrder_23 (w : dS) (n : Nat) (q : dS) (x2 : Int32) (x3 : Int32) (x4 : Int32) (x5 : Int32) (h : Fm w q) : dAll (zX10_isOrder_23 n q x2 x3 x4 x5) (fun o => Fm w o.2) := by
  unfold zX10_isOrder_23
  exact dA_fix (fun (a : dS × Int32 × Int32 × Int32 × Int32) => Fm w a.1) (fun k hk a ha => lm_zX10_isOrder_23b w  _ (fun q x2 x3 x4 x5 hq => hk (q, x2, x3, x4, x5) hq) a.1 a.2.1 a.2.2.1 a.2.2.2.1 a.2.2.2.2 ha) n _ h

theorem lm_zX10_isOrder_13 (w : dS) (q : dS) (x2 : Int32) (x3 : Int32) (y0 : Int32) (h : Fm w q) : dAll (zX10_isOrder_13 q x2 x3 y0) (fun o => Fm w o.2) := by
  unfold zX10_isOrder_13
  refine dA_B (lm_zX10_size w q h) (fun r1 q3 hq3 => ?_)
  exact lm_zX10_isOrder_23 w dF q3 x2 x3 y0 (r1 - 1 : Int32) hq3

theorem lm_zX10_isOrder (w : dS) (q : dS) (p1 : Int32) (h : Fm w q) : dAll (zX10_isOrder q p1) (fun o => Fm w o.2) := by
  unfold zX10_isOrder
  refine dA_if (fun _ => ?_) (fun _ => ?_)
  · exact lm_zX10_isOrder_13 w q p1 0 0 h
  · exact lm_zX10_isOrder_13 w q p1 0 1 h

theorem lm_zX10_comes_69 (w : dS) (q : dS) (y0 : Int32) (h : Fm w q) : dAll (zX10_comes_69 q y0) (fun o => Fm w o.2) := by
  unfold zX10_comes_69
  exact dA_some h

theorem lm_zX10_comes_26b (w : dS) (k26 : dS → Int32 → Int32 → Int32 → Option (Int32 × dS)) (hk26 : ∀ (y0 : dS) (y1 : Int32) (y2 : Int32) (y3 : Int32), Fm w y0 → dAll (k26 y0 y1 y2 y3) (fun o => Fm w o.2)) (q : dS) (x2 : Int32) (x3 : Int32) (x4 : Int32) (h : Fm w q) : dAll (zX10_comes_26b k26 q x2 x3 x4) (fun o => Fm w o.2) := by
  unfold zX10_comes_26b
  refine dA_if (fun _ => ?_) (fun _ => ?_)
  · refine dA_if (fun _ => ?_) (fun _ => ?_)
    · exact lm_zX10_comes_69 w q (-1) h
    · exact lm_zX10_comes_69 w q x3 h
  · refine dA_G (fun _ => ?_)
    refine dA_L (fun v2 e_1 => ?_)
    refine dA_V dA_tr (fun r3 _ => ?_)
    exact hk26 q x2 r3 (x4 + 1) h

theorem lm_zX10_comes_26 (w : dS) (n : Nat) (q : dS) (x2 : Int32) (x3 : Int32) (x4 : Int32) (h : Fm w q) : dAll (zX10_comes_26 n q x2 x3 x4) (fun o => Fm w o.2) := by
  unfold zX10_comes_26
  exact dA_fix (fun (a : dS × Int32 × Int32 × Int32) => Fm w a.1) (fun k hk a ha => lm_zX10_comes_26b w  _ (fun q x2 x3 x4 hq => hk (q, x2, x3, x4) hq) a.1 a.2.1 a.2.2.1 a.2.2.2 ha) n _ h

theorem lm_zX10_comes (w : dS) (q : dS) (p1 : Int32) (h : Fm w q) : dAll (zX10_comes q p1) (fun o => Fm w o.2) := by
  unfold zX10_comes
  refine dA_B (lm_zX10_isOrder w q p1 h) (fun r1 q3 hq3 => ?_)
  refine dA_if (fun _ => ?_) (fun _ => ?_)
  · exact dA_some hq3
  · refine dA_B (lm_zX10_numberOf w q3 hq3) (fun r4 q6 hq6 => ?_)
    refine dA_B (lm_zX10_laysReach w q6 hq6) (fun r7 q9 hq9 => ?_)
    exact lm_zX10_comes_26 w dF q9 r4 1000000 0 hq9

theorem lm_zX10_view_95 (w : dS) (q : dS) (y0 : Int32) (h : Fm w q) : dAll (zX10_view_95 q y0) (fun o => Fm w o.2) := by
  unfold zX10_view_95
  exact dA_some h

theorem lm_zX10_view_78 (w : dS) (k28 : dS → Int32 → Int32 → Int32 → Option (Int32 × dS)) (hk28 : ∀ (y0 : dS) (y1 : Int32) (y2 : Int32) (y3 : Int32), Fm w y0 → dAll (k28 y0 y1 y2 y3) (fun o => Fm w o.2)) (q : dS) (x1 : Int32) (x2 : Int32) (x3 : Int32) (h : Fm w q) : dAll (zX10_view_78 k28 q x1 x2 x3) (fun o => Fm w o.2) := by
  unfold zX10_view_78
  exact hk28 q x1 x2 (x3 + 1) h

theorem lm_zX10_view_28b (w : dS) (k28 : dS → Int32 → Int32 → Int32 → Option (Int32 × dS)) (hk28 : ∀ (y0 : dS) (y1 : Int32) (y2 : Int32) (y3 : Int32), Fm w y0 → dAll (k28 y0 y1 y2 y3) (fun o => Fm w o.2)) (q : dS) (x1 : Int32) (x2 : Int32) (x3 : Int32) (h : Fm w q) : dAll (zX10_view_28b k28 q x1 x2 x3) (fun o => Fm w o.2) := by
  unfold zX10_view_28b
  refine dA_if (fun _ => ?_) (fun _ => ?_)
  · refine dA_if (fun _ => ?_) (fun _ => ?_)
    · exact lm_zX10_view_95 w q (-1) h
    · exact lm_zX10_view_95 w q x2 h
  · refine dA_B (lm_zX10_isThere w q x3 h) (fun r1 q3 hq3 => ?_)
    refine dA_if (fun _ => ?_) (fun _ => ?_)
    · exact lm_zX10_view_78 w k28 hk28 q3 x1 x2 x3 hq3
    · refine dA_G (fun _ => ?_)
      refine dA_L (fun v5 e_1 => ?_)
      refine dA_B (lm_zX10_lessThan w q3 x1 hq3) (fun r6 q8 hq8 => ?_)
      refine dA_if (fun _ => ?_) (fun _ => ?_)
      · refine dA_G (fun _ => ?_)
        refine dA_L (fun v10 e_2 => ?_)
        refine dA_V dA_tr (fun r11 _ => ?_)
        exact lm_zX10_view_78 w k28 hk28 q8 x1 r11 x3 hq8
      · exact lm_zX10_view_78 w k28 hk28 q8 x1 x2 x3 hq8

theorem lm_zX10_view_28 (w : dS) (n : Nat) (q : dS) (x1 : Int32) (x2 : Int32) (x3 : Int32) (h : Fm w q) : dAll (zX10_view_28 n q x1 x2 x3) (fun o => Fm w o.2) := by
  unfold zX10_view_28
  exact dA_fix (fun (a : dS × Int32 × Int32 × Int32) => Fm w a.1) (fun k hk a ha => lm_zX10_view_28b w  _ (fun q x1 x2 x3 hq => hk (q, x1, x2, x3) hq) a.1 a.2.1 a.2.2.1 a.2.2.2 ha) n _ h

theorem lm_zX10_view_16 (w : dS) (q : dS) (h : Fm w q) : dAll (zX10_view_16 q) (fun o => Fm w o.2) := by
  unfold zX10_view_16
  exact dA_some h

theorem lm_zX10_view (w : dS) (q : dS) (p1 : Int32) (h : Fm w q) : dAll (zX10_view q p1) (fun o => Fm w o.2) := by
  unfold zX10_view
  refine dA_V dA_tr (fun r1 _ => ?_)
  refine dA_if (fun _ => ?_) (fun _ => ?_)
  · exact lm_zX10_view_16 w q h
  · refine dA_B (lm_zX10_placeOf w q p1 h) (fun r3 q5 hq5 => ?_)
    refine dA_if (fun _ => ?_) (fun _ => ?_)
    · exact lm_zX10_view_16 w q5 hq5
    · refine dA_B (lm_zX10_laysReach w q5 hq5) (fun r6 q8 hq8 => ?_)
      exact lm_zX10_view_28 w dF q8 p1 1000000 0 hq8

theorem lm_zX10_canStay_84 (w : dS) (k7 : dS → Int32 → Int32 → Int32 → Int32 → Option (Int32 × dS)) (hk7 : ∀ (y0 : dS) (y1 : Int32) (y2 : Int32) (y3 : Int32) (y4 : Int32), Fm w y0 → dAll (k7 y0 y1 y2 y3 y4) (fun o => Fm w o.2)) (q : dS) (x1 : Int32) (x2 : Int32) (x3 : Int32) (x4 : Int32) (h : Fm w q) : dAll (zX10_canStay_84 k7 q x1 x2 x3 x4) (fun o => Fm w o.2) := by
  unfold zX10_canStay_84
  exact hk7 q x1 x2 x3 (x4 + 1) h

theorem lm_zX10_canStay_73 (w : dS) (k7 : dS → Int32 → Int32 → Int32 → Int32 → Option (Int32 × dS)) (hk7 : ∀ (y0 : dS) (y1 : Int32) (y2 : Int32) (y3 : Int32) (y4 : Int32), Fm w y0 → dAll (k7 y0 y1 y2 y3 y4) (fun o => Fm w o.2)) (q : dS) (x1 : Int32) (x4 : Int32) (y0 : Int32) (h : Fm w q) : dAll (zX10_canStay_73 k7 q x1 x4 y0) (fun o => Fm w o.2) := by
  unfold zX10_canStay_73
  refine dA_G (fun _ => ?_)
  refine dA_L (fun v2 e_1 => ?_)
  exact lm_zX10_canStay_84 w k7 hk7 q x1 v2 y0 x4 h

theorem lm_zX10_canStay_72 (w : dS) (k7 : dS → Int32 → Int32 → Int32 → Int32 → Option (Int32 × dS)) (hk7 : ∀ (y0 : dS) (y1 : Int32) (y2 : Int32) (y3 : Int32) (y4 : Int32), Fm w y0 → dAll (k7 y0 y1 y2 y3 y4) (fun o => Fm w o.2)) (q : dS) (x1 : Int32) (x4 : Int32) (h : Fm w q) : dAll (zX10_canStay_72 k7 q x1 x4) (fun o => Fm w o.2) := by
  unfold zX10_canStay_72
  exact lm_zX10_canStay_73 w k7 hk7 q x1 x4 0 h

theorem lm_zX10_canStay_68 (w : dS) (k7 : dS → Int32 → Int32 → Int32 → Int32 → Option (Int32 × dS)) (hk7 : ∀ (y0 : dS) (y1 : Int32) (y2 : Int32) (y3 : Int32) (y4 : Int32), Fm w y0 → dAll (k7 y0 y1 y2 y3 y4) (fun o => Fm w o.2)) (q : dS) (x1 : Int32) (x4 : Int32) (h : Fm w q) : dAll (zX10_canStay_68 k7 q x1 x4) (fun o => Fm w o.2) := by
  unfold zX10_canStay_68
  exact lm_zX10_canStay_73 w k7 hk7 q x1 x4 1 h

theorem lm_zX10_canStay_7b (w : dS) (k7 : dS → Int32 → Int32 → Int32 → Int32 → Option (Int32 × dS)) (hk7 : ∀ (y0 : dS) (y1 : Int32) (y2 : Int32) (y3 : Int32) (y4 : Int32), Fm w y0 → dAll (k7 y0 y1 y2 y3 y4) (fun o => Fm w o.2)) (q : dS) (x1 : Int32) (x2 : Int32) (x3 : Int32) (x4 : Int32) (h : Fm w q) : dAll (zX10_canStay_7b k7 q x1 x2 x3 x4) (fun o => Fm w o.2) := by
  unfold zX10_canStay_7b
  refine dA_B (lm_zX10_size w q h) (fun r1 q3 hq3 => ?_)
  refine dA_if (fun _ => ?_) (fun _ => ?_)
  · refine dA_G (fun _ => ?_)
    exact dA_some hq3
  · refine dA_V dA_tr (fun r5 _ => ?_)
    refine dA_if (fun _ => ?_) (fun _ => ?_)
    · exact lm_zX10_canStay_84 w k7 hk7 q3 x1 x2 x3 x4 hq3
    · refine dA_if (fun _ => ?_) (fun _ => ?_)
      · exact lm_zX10_canStay_72 w k7 hk7 q3 x1 x4 hq3
      · refine dA_G (fun _ => ?_)
        refine dA_L (fun v8 e_1 => ?_)
        refine dA_if (fun _ => ?_) (fun _ => ?_)
        · exact lm_zX10_canStay_72 w k7 hk7 q3 x1 x4 hq3
        · refine dA_if (fun _ => ?_) (fun _ => ?_)
          · exact lm_zX10_canStay_68 w k7 hk7 q3 x1 x4 hq3
          · refine dA_G (fun _ => ?_)
            refine dA_L (fun v10 e_2 => ?_)
            refine dA_if (fun _ => ?_) (fun _ => ?_)
            · exact lm_zX10_canStay_68 w k7 hk7 q3 x1 x4 hq3
            · exact lm_zX10_canStay_72 w k7 hk7 q3 x1 x4 hq3

theorem lm_zX10_canStay_7 (w : dS) (n : Nat) (q : dS) (x1 : Int32) (x2 : Int32) (x3 : Int32) (x4 : Int32) (h : Fm w q) : dAll (zX10_canStay_7 n q x1 x2 x3 x4) (fun o => Fm w o.2) := by
  unfold zX10_canStay_7
  exact dA_fix (fun (a : dS × Int32 × Int32 × Int32 × Int32) => Fm w a.1) (fun k hk a ha => lm_zX10_canStay_7b w  _ (fun q x1 x2 x3 x4 hq => hk (q, x1, x2, x3, x4) hq) a.1 a.2.1 a.2.2.1 a.2.2.2.1 a.2.2.2.2 ha) n _ h

theorem lm_zX10_canStay (w : dS) (q : dS) (p1 : Int32) (h : Fm w q) : dAll (zX10_canStay q p1) (fun o => Fm w o.2) := by
  unfold zX10_canStay
  exact lm_zX10_canStay_7 w dF q p1 (-1) 1 0 h

theorem lm_zX10_stays_64 (w : dS) (q : dS) (y0 : Int32) (h : Fm w q) : dAll (zX10_stays_64 q y0) (fun o => Fm w o.2) := by
  unfold zX10_stays_64
  exact dA_some h

theorem lm_zX10_stays_46 (w : dS) (k15 : dS → Int32 → Int32 → Int32 → Option (Int32 × dS)) (hk15 : ∀ (y0 : dS) (y1 : Int32) (y2 : Int32) (y3 : Int32), Fm w y0 → dAll (k15 y0 y1 y2 y3) (fun o => Fm w o.2)) (q : dS) (x1 : Int32) (x2 : Int32) (x3 : Int32) (h : Fm w q) : dAll (zX10_stays_46 k15 q x1 x2 x3) (fun o => Fm w o.2) := by
  unfold zX10_stays_46
  exact hk15 q x1 x2 (x3 + 1) h

theorem lm_zX10_stays_15b (w : dS) (k15 : dS → Int32 → Int32 → Int32 → Option (Int32 × dS)) (hk15 : ∀ (y0 : dS) (y1 : Int32) (y2 : Int32) (y3 : Int32), Fm w y0 → dAll (k15 y0 y1 y2 y3) (fun o => Fm w o.2)) (q : dS) (x1 : Int32) (x2 : Int32) (x3 : Int32) (h : Fm w q) : dAll (zX10_stays_15b k15 q x1 x2 x3) (fun o => Fm w o.2) := by
  unfold zX10_stays_15b
  refine dA_B (lm_zX10_size w q h) (fun r1 q3 hq3 => ?_)
  refine dA_if (fun _ => ?_) (fun _ => ?_)
  · refine dA_if (fun _ => ?_) (fun _ => ?_)
    · refine dA_V dA_tr (fun r4 _ => ?_)
      exact lm_zX10_stays_64 w q3 r4 hq3
    · exact lm_zX10_stays_64 w q3 x2 hq3
  · refine dA_V dA_tr (fun r6 _ => ?_)
    refine dA_V dA_tr (fun r8 _ => ?_)
    refine dA_if (fun _ => ?_) (fun _ => ?_)
    · exact lm_zX10_stays_46 w k15 hk15 q3 x1 x2 x3 hq3
    · refine dA_B (lm_zX10_canStay w q3 x3 hq3) (fun r10 q12 hq12 => ?_)
      refine dA_if (fun _ => ?_) (fun _ => ?_)
      · exact lm_zX10_stays_46 w k15 hk15 q12 x1 x2 x3 hq12
      · exact lm_zX10_stays_46 w k15 hk15 q12 x1 x3 x3 hq12

theorem lm_zX10_stays_15 (w : dS) (n : Nat) (q : dS) (x1 : Int32) (x2 : Int32) (x3 : Int32) (h : Fm w q) : dAll (zX10_stays_15 n q x1 x2 x3) (fun o => Fm w o.2) := by
  unfold zX10_stays_15
  exact dA_fix (fun (a : dS × Int32 × Int32 × Int32) => Fm w a.1) (fun k hk a ha => lm_zX10_stays_15b w  _ (fun q x1 x2 x3 hq => hk (q, x1, x2, x3) hq) a.1 a.2.1 a.2.2.1 a.2.2.2 ha) n _ h

theorem lm_zX10_stays (w : dS) (q : dS) (p1 : Int32) (h : Fm w q) : dAll (zX10_stays q p1) (fun o => Fm w o.2) := by
  unfold zX10_stays
  refine dA_V dA_tr (fun r1 _ => ?_)
  refine dA_if (fun _ => ?_) (fun _ => ?_)
  · exact dA_some h
  · exact lm_zX10_stays_15 w dF q p1 0 0 h

theorem lm_zX10_seen_14 (w : dS) (q : dS) (h : Fm w q) : dAll (zX10_seen_14 q) (fun o => Fm w o.2) := by
  unfold zX10_seen_14
  refine dA_B (lm_zX10_refuses w q (-1) h) (fun r1 q3 hq3 => ?_)
  exact dA_some hq3

theorem lm_zX10_rankBehind_33 (w : dS) (q : dS) (y0 : Int32) (h : Fm w q) : dAll (zX10_rankBehind_33 q y0) (fun o => Fm w o.2) := by
  unfold zX10_rankBehind_33
  exact dA_some h

theorem lm_zX10_rankBehind_31 (w : dS) (q : dS) (y0 : Int32) (y1 : Int32) (h : Fm w q) : dAll (zX10_rankBehind_31 q y0 y1) (fun o => Fm w o.2) := by
  unfold zX10_rankBehind_31
  refine dA_G (fun _ => ?_)
  refine dA_L (fun v2 e_1 => ?_)
  exact lm_zX10_rankBehind_33 w q v2 h

theorem lm_zX10_rankBehind (w : dS) (q : dS) (p1 : Int32) (p2 : Int32) (h : Fm w q) : dAll (zX10_rankBehind q p1 p2) (fun o => Fm w o.2) := by
  unfold zX10_rankBehind
  refine dA_B (lm_zX10_isPlace w q p2 h) (fun r1 q3 hq3 => ?_)
  refine dA_if (fun _ => ?_) (fun _ => ?_)
  · exact lm_zX10_rankBehind_33 w q3 (-1) hq3
  · refine dA_if (fun _ => ?_) (fun _ => ?_)
    · exact lm_zX10_rankBehind_31 w q3 p2 0 hq3
    · exact lm_zX10_rankBehind_31 w q3 ((p1 - 1 : Int32) - p2) 0 hq3

theorem lm_zX10_itWas_67 (w : dS) (q : dS) (x2 : Int32) (h : Fm w q) : dAll (zX10_itWas_67 q x2) (fun o => Fm w o.2) := by
  unfold zX10_itWas_67
  refine dA_G (fun _ => ?_)
  exact dA_some h

theorem lm_zX10_itWas_60 (w : dS) (k8 : dS → Int32 → Int32 → Int32 → Option (Int32 × dS)) (hk8 : ∀ (y0 : dS) (y1 : Int32) (y2 : Int32) (y3 : Int32), Fm w y0 → dAll (k8 y0 y1 y2 y3) (fun o => Fm w o.2)) (q : dS) (x1 : Int32) (x3 : Int32) (y0 : Int32) (h : Fm w q) : dAll (zX10_itWas_60 k8 q x1 x3 y0) (fun o => Fm w o.2) := by
  unfold zX10_itWas_60
  exact hk8 q x1 y0 (x3 + 1) h

theorem lm_zX10_itWas_8b (w : dS) (k8 : dS → Int32 → Int32 → Int32 → Option (Int32 × dS)) (hk8 : ∀ (y0 : dS) (y1 : Int32) (y2 : Int32) (y3 : Int32), Fm w y0 → dAll (k8 y0 y1 y2 y3) (fun o => Fm w o.2)) (q : dS) (x1 : Int32) (x2 : Int32) (x3 : Int32) (h : Fm w q) : dAll (zX10_itWas_8b k8 q x1 x2 x3) (fun o => Fm w o.2) := by
  unfold zX10_itWas_8b
  refine dA_if (fun _ => ?_) (fun _ => ?_)
  · exact lm_zX10_itWas_67 w q x2 h
  · refine dA_if (fun _ => ?_) (fun _ => ?_)
    · exact lm_zX10_itWas_67 w q x2 h
    · refine dA_G (fun _ => ?_)
      refine dA_L (fun v2 e_1 => ?_)
      refine dA_B (lm_zX10_rankBehind w q x1 v2 h) (fun r3 q5 hq5 => ?_)
      refine dA_G (fun _ => ?_)
      refine dA_L (fun v7 e_2 => ?_)
      refine dA_if (fun _ => ?_) (fun _ => ?_)
      · exact lm_zX10_itWas_60 w k8 hk8 q5 x1 x3 1 hq5
      · exact lm_zX10_itWas_60 w k8 hk8 q5 x1 x3 0 hq5

theorem lm_zX10_itWas_8 (w : dS) (n : Nat) (q : dS) (x1 : Int32) (x2 : Int32) (x3 : Int32) (h : Fm w q) : dAll (zX10_itWas_8 n q x1 x2 x3) (fun o => Fm w o.2) := by
  unfold zX10_itWas_8
  exact dA_fix (fun (a : dS × Int32 × Int32 × Int32) => Fm w a.1) (fun k hk a ha => lm_zX10_itWas_8b w  _ (fun q x1 x2 x3 hq => hk (q, x1, x2, x3) hq) a.1 a.2.1 a.2.2.1 a.2.2.2 ha) n _ h

theorem lm_zX10_itWas (w : dS) (q : dS) (p1 : Int32) (h : Fm w q) : dAll (zX10_itWas q p1) (fun o => Fm w o.2) := by
  unfold zX10_itWas
  refine dA_B (lm_zX10_canTurn w q p1 h) (fun r1 q3 hq3 => ?_)
  exact lm_zX10_itWas_8 w dF q3 p1 r1 0 hq3

theorem lm_zX10_was_28 (w : dS) (k4 : dS → Int32 → Int32 → Option (Int32 × dS)) (hk4 : ∀ (y0 : dS) (y1 : Int32) (y2 : Int32), Fm w y0 → dAll (k4 y0 y1 y2) (fun o => Fm w o.2)) (q : dS) (x2 : Int32) (y0 : Int32) (y1 : Int32) (h : Fm w q) : dAll (zX10_was_28 k4 q x2 y0 y1) (fun o => Fm w o.2) := by
  unfold zX10_was_28
  exact hk4 q (y1 ||| y0) (x2 + 1) h

theorem lm_zX10_was_4b (w : dS) (k4 : dS → Int32 → Int32 → Option (Int32 × dS)) (hk4 : ∀ (y0 : dS) (y1 : Int32) (y2 : Int32), Fm w y0 → dAll (k4 y0 y1 y2) (fun o => Fm w o.2)) (q : dS) (x1 : Int32) (x2 : Int32) (h : Fm w q) : dAll (zX10_was_4b k4 q x1 x2) (fun o => Fm w o.2) := by
  unfold zX10_was_4b
  refine dA_B (lm_zX10_size w q h) (fun r1 q3 hq3 => ?_)
  refine dA_if (fun _ => ?_) (fun _ => ?_)
  · exact dA_some hq3
  · refine dA_B (lm_zX10_itWas w q3 x2 hq3) (fun r4 q6 hq6 => ?_)
    refine dA_if (fun _ => ?_) (fun _ => ?_)
    · exact lm_zX10_was_28 w k4 hk4 q6 x2 0 x1 hq6
    · exact lm_zX10_was_28 w k4 hk4 q6 x2 (1 <<< ((x2 : Int32) &&& 31) : Int32) x1 hq6

theorem lm_zX10_was_4 (w : dS) (n : Nat) (q : dS) (x1 : Int32) (x2 : Int32) (h : Fm w q) : dAll (zX10_was_4 n q x1 x2) (fun o => Fm w o.2) := by
  unfold zX10_was_4
  exact dA_fix (fun (a : dS × Int32 × Int32) => Fm w a.1) (fun k hk a ha => lm_zX10_was_4b w  _ (fun q x1 x2 hq => hk (q, x1, x2) hq) a.1 a.2.1 a.2.2 ha) n _ h

theorem lm_zX10_was (w : dS) (q : dS) (h : Fm w q) : dAll (zX10_was q) (fun o => Fm w o.2) := by
  unfold zX10_was
  exact lm_zX10_was_4 w dF q 0 1 h

theorem lm_zX10_mostAlike_79 (w : dS) (k26 : dS → Int32 → Int32 → Int32 → Int32 → Option (Int32 × dS)) (hk26 : ∀ (y0 : dS) (y1 : Int32) (y2 : Int32) (y3 : Int32) (y4 : Int32), Fm w y0 → dAll (k26 y0 y1 y2 y3 y4) (fun o => Fm w o.2)) (q : dS) (x1 : Int32) (x2 : Int32) (x3 : Int32) (x4 : Int32) (h : Fm w q) : dAll (zX10_mostAlike_79 k26 q x1 x2 x3 x4) (fun o => Fm w o.2) := by
  unfold zX10_mostAlike_79
  exact hk26 q x1 x2 x3 (x4 + 1) h

theorem lm_zX10_mostAlike_26b (w : dS) (k26 : dS → Int32 → Int32 → Int32 → Int32 → Option (Int32 × dS)) (hk26 : ∀ (y0 : dS) (y1 : Int32) (y2 : Int32) (y3 : Int32) (y4 : Int32), Fm w y0 → dAll (k26 y0 y1 y2 y3 y4) (fun o => Fm w o.2)) (q : dS) (x1 : Int32) (x2 : Int32) (x3 : Int32) (x4 : Int32) (h : Fm w q) : dAll (zX10_mostAlike_26b k26 q x1 x2 x3 x4) (fun o => Fm w o.2) := by
  unfold zX10_mostAlike_26b
  refine dA_B (lm_zX10_size w q h) (fun r1 q3 hq3 => ?_)
  refine dA_if (fun _ => ?_) (fun _ => ?_)
  · exact dA_some hq3
  · refine dA_V dA_tr (fun r4 _ => ?_)
    refine dA_if (fun _ => ?_) (fun _ => ?_)
    · exact lm_zX10_mostAlike_79 w k26 hk26 q3 x1 x2 x3 x4 hq3
    · refine dA_B (lm_zX10_rankBehind w q3 x4 x2 hq3) (fun r6 q8 hq8 => ?_)
      refine dA_G (fun _ => ?_)
      refine dA_L (fun v10 e_1 => ?_)
      refine dA_G (fun _ => ?_)
      refine dA_L (fun q12 e_2 => ?_)
      have hq12 : Fm w q12 := by rw [e_2]; exact (fm_r (by decide) hq8)
      refine dA_G (fun _ => ?_)
      refine dA_L (fun v14 e_3 => ?_)
      refine dA_V dA_tr (fun r15 _ => ?_)
      exact lm_zX10_mostAlike_79 w k26 hk26 q12 x1 x2 r15 x4 hq12

theorem lm_zX10_mostAlike_26 (w : dS) (n : Nat) (q : dS) (x1 : Int32) (x2 : Int32) (x3 : Int32) (x4 : Int32) (h : Fm w q) : dAll (zX10_mostAlike_26 n q x1 x2 x3 x4) (fun o => Fm w o.2) := by
  unfold zX10_mostAlike_26
  exact dA_fix (fun (a : dS × Int32 × Int32 × Int32 × Int32) => Fm w a.1) (fun k hk a ha => lm_zX10_mostAlike_26b w  _ (fun q x1 x2 x3 x4 hq => hk (q, x1, x2, x3, x4) hq) a.1 a.2.1 a.2.2.1 a.2.2.2.1 a.2.2.2.2 ha) n _ h

theorem lm_zX10_mostAlike_2b (w : dS) (k2 : dS → Int32 → Int32 → Int32 → Option (Int32 × dS)) (hk2 : ∀ (y0 : dS) (y1 : Int32) (y2 : Int32) (y3 : Int32), Fm w y0 → dAll (k2 y0 y1 y2 y3) (fun o => Fm w o.2)) (q : dS) (x1 : Int32) (x2 : Int32) (x3 : Int32) (h : Fm w q) : dAll (zX10_mostAlike_2b k2 q x1 x2 x3) (fun o => Fm w o.2) := by
  unfold zX10_mostAlike_2b
  refine dA_if (fun _ => ?_) (fun _ => ?_)
  · exact lm_zX10_mostAlike_26 w dF q x1 x2 0 1 h
  · refine dA_G (fun _ => ?_)
    refine dA_L (fun q2 e_1 => ?_)
    have hq2 : Fm w q2 := by rw [e_1]; exact (fm_r (by decide) h)
    exact hk2 q2 x1 x2 (x3 + 1) hq2

theorem lm_zX10_mostAlike_2 (w : dS) (n : Nat) (q : dS) (x1 : Int32) (x2 : Int32) (x3 : Int32) (h : Fm w q) : dAll (zX10_mostAlike_2 n q x1 x2 x3) (fun o => Fm w o.2) := by
  unfold zX10_mostAlike_2
  exact dA_fix (fun (a : dS × Int32 × Int32 × Int32) => Fm w a.1) (fun k hk a ha => lm_zX10_mostAlike_2b w  _ (fun q x1 x2 x3 hq => hk (q, x1, x2, x3) hq) a.1 a.2.1 a.2.2.1 a.2.2.2 ha) n _ h

theorem lm_zX10_mostAlike (w : dS) (q : dS) (p1 : Int32) (p2 : Int32) (h : Fm w q) : dAll (zX10_mostAlike q p1 p2) (fun o => Fm w o.2) := by
  unfold zX10_mostAlike
  exact lm_zX10_mostAlike_2 w dF q p1 p2 0 h

theorem lm_zX10_look_85 (w : dS) (q : dS) (y0 : Int32) (h : Fm w q) : dAll (zX10_look_85 q y0) (fun o => Fm w o.2) := by
  unfold zX10_look_85
  exact dA_some h

theorem lm_zX10_look_79 (w : dS) (q : dS) (x3 : Int32) (h : Fm w q) : dAll (zX10_look_79 q x3) (fun o => Fm w o.2) := by
  unfold zX10_look_79
  exact lm_zX10_look_85 w q x3 h

theorem lm_zX10_look_70 (w : dS) (q : dS) (x1 : Int32) (x3 : Int32) (x4 : Int32) (h : Fm w q) : dAll (zX10_look_70 q x1 x3 x4) (fun o => Fm w o.2) := by
  unfold zX10_look_70
  refine dA_if (fun _ => ?_) (fun _ => ?_)
  · exact lm_zX10_look_79 w q x3 h
  · refine dA_if (fun _ => ?_) (fun _ => ?_)
    · exact lm_zX10_look_79 w q x3 h
    · exact lm_zX10_look_85 w q x4 h

theorem lm_zX10_look_64 (w : dS) (k25 : dS → Int32 → Int32 → Int32 → Int32 → Int32 → Option (Int32 × dS)) (hk25 : ∀ (y0 : dS) (y1 : Int32) (y2 : Int32) (y3 : Int32) (y4 : Int32) (y5 : Int32), Fm w y0 → dAll (k25 y0 y1 y2 y3 y4 y5) (fun o => Fm w o.2)) (q : dS) (x1 : Int32) (x2 : Int32) (x3 : Int32) (x4 : Int32) (x5 : Int32) (h : Fm w q) : dAll (zX10_look_64 k25 q x1 x2 x3 x4 x5) (fun o => Fm w o.2) := by
  unfold zX10_look_64
  exact hk25 q x1 x2 x3 x4 (x5 + 1) h

theorem lm_zX10_look_25b (w : dS) (k25 : dS → Int32 → Int32 → Int32 → Int32 → Int32 → Option (Int32 × dS)) (hk25 : ∀ (y0 : dS) (y1 : Int32) (y2 : Int32) (y3 : Int32) (y4 : Int32) (y5 : Int32), Fm w y0 → dAll (k25 y0 y1 y2 y3 y4 y5) (fun o => Fm w o.2)) (q : dS) (x1 : Int32) (x2 : Int32) (x3 : Int32) (x4 : Int32) (x5 : Int32) (h : Fm w q) : dAll (zX10_look_25b k25 q x1 x2 x3 x4 x5) (fun o => Fm w o.2) := by
  unfold zX10_look_25b
  refine dA_B (lm_zX10_size w q h) (fun r1 q3 hq3 => ?_)
  refine dA_if (fun _ => ?_) (fun _ => ?_)
  · exact lm_zX10_look_70 w q3 x1 x3 x4 hq3
  · refine dA_if (fun _ => ?_) (fun _ => ?_)
    · exact lm_zX10_look_70 w q3 x1 x3 x4 hq3
    · refine dA_B (lm_zX10_mostAlike w q3 x2 x5 hq3) (fun r4 q6 hq6 => ?_)
      refine dA_if (fun _ => ?_) (fun _ => ?_)
      · exact lm_zX10_look_64 w k25 hk25 q6 x1 x2 x5 r4 x5 hq6
      · exact lm_zX10_look_64 w k25 hk25 q6 x1 x2 x3 x4 x5 hq6

theorem lm_zX10_look_25 (w : dS) (n : Nat) (q : dS) (x1 : Int32) (x2 : Int32) (x3 : Int32) (x4 : Int32) (x5 : Int32) (h : Fm w q) : dAll (zX10_look_25 n q x1 x2 x3 x4 x5) (fun o => Fm w o.2) := by
  unfold zX10_look_25
  exact dA_fix (fun (a : dS × Int32 × Int32 × Int32 × Int32 × Int32) => Fm w a.1) (fun k hk a ha => lm_zX10_look_25b w  _ (fun q x1 x2 x3 x4 x5 hq => hk (q, x1, x2, x3, x4, x5) hq) a.1 a.2.1 a.2.2.1 a.2.2.2.1 a.2.2.2.2.1 a.2.2.2.2.2 ha) n _ h

theorem lm_zX10_look (w : dS) (q : dS) (p1 : Int32) (h : Fm w q) : dAll (zX10_look q p1) (fun o => Fm w o.2) := by
  unfold zX10_look
  refine dA_V dA_tr (fun r1 _ => ?_)
  refine dA_if (fun _ => ?_) (fun _ => ?_)
  · exact dA_some h
  · refine dA_B (lm_zX10_was w q h) (fun r3 q5 hq5 => ?_)
    exact lm_zX10_look_25 w dF q5 p1 r3 (-1) 1000000 0 hq5

theorem lm_zX10_few_151b (w : dS) (k151 : dS → Int32 → Int64 → Int32 → Option (Int64 × dS)) (hk151 : ∀ (y0 : dS) (y1 : Int32) (y2 : Int64) (y3 : Int32), Fm w y0 → dAll (k151 y0 y1 y2 y3) (fun o => Fm w o.2)) (q : dS) (x1 : Int32) (x3 : Int64) (x5 : Int32) (h : Fm w q) : dAll (zX10_few_151b k151 q x1 x3 x5) (fun o => Fm w o.2) := by
  unfold zX10_few_151b
  refine dA_if (fun _ => ?_) (fun _ => ?_)
  · exact dA_some h
  · refine dA_G (fun _ => ?_)
    refine dA_L (fun v2 e_1 => ?_)
    exact hk151 q x1 (x3 + v2 : Int64) (x5 + 1) h

theorem lm_zX10_few_151 (w : dS) (n : Nat) (q : dS) (x1 : Int32) (x3 : Int64) (x5 : Int32) (h : Fm w q) : dAll (zX10_few_151 n q x1 x3 x5) (fun o => Fm w o.2) := by
  unfold zX10_few_151
  exact dA_fix (fun (a : dS × Int32 × Int64 × Int32) => Fm w a.1) (fun k hk a ha => lm_zX10_few_151b w  _ (fun q x1 x3 x5 hq => hk (q, x1, x3, x5) hq) a.1 a.2.1 a.2.2.1 a.2.2.2 ha) n _ h

theorem lm_zX10_few_67b (w : dS) (k57 : dS → Int32 → Int32 → Int32 → Option (Int64 × dS)) (hk57 : ∀ (y0 : dS) (y1 : Int32) (y2 : Int32) (y3 : Int32), Fm w y0 → dAll (k57 y0 y1 y2 y3) (fun o => Fm w o.2)) (k67 : dS → Int32 → Int32 → Int32 → Int32 → Option (Int64 × dS)) (hk67 : ∀ (y0 : dS) (y1 : Int32) (y2 : Int32) (y3 : Int32) (y4 : Int32), Fm w y0 → dAll (k67 y0 y1 y2 y3 y4) (fun o => Fm w o.2)) (q : dS) (x1 : Int32) (x2 : Int32) (x3 : Int32) (x4 : Int32) (h : Fm w q) : dAll (zX10_few_67b k57 k67 q x1 x2 x3 x4) (fun o => Fm w o.2) := by
  unfold zX10_few_67b
  refine dA_if (fun _ => ?_) (fun _ => ?_)
  · exact hk57 q x1 x2 (x3 + 1) h
  · refine dA_G (fun _ => ?_)
    refine dA_L (fun v2 e_1 => ?_)
    refine dA_G (fun _ => ?_)
    refine dA_L (fun v4 e_2 => ?_)
    refine dA_L (fun v5 e_3 => ?_)
    refine dA_G (fun _ => ?_)
    refine dA_L (fun q7 e_4 => ?_)
    have hq7 : Fm w q7 := by rw [e_4]; exact h
    refine dA_G (fun _ => ?_)
    refine dA_L (fun v9 e_5 => ?_)
    refine dA_L (fun v10 e_6 => ?_)
    refine dA_G (fun _ => ?_)
    refine dA_L (fun q12 e_7 => ?_)
    have hq12 : Fm w q12 := by rw [e_7]; exact hq7
    exact hk67 q12 x1 x2 x3 (x4 + (-1)) hq12

theorem lm_zX10_few_67 (w : dS) (k57 : dS → Int32 → Int32 → Int32 → Option (Int64 × dS)) (hk57 : ∀ (y0 : dS) (y1 : Int32) (y2 : Int32) (y3 : Int32), Fm w y0 → dAll (k57 y0 y1 y2 y3) (fun o => Fm w o.2)) (n : Nat) (q : dS) (x1 : Int32) (x2 : Int32) (x3 : Int32) (x4 : Int32) (h : Fm w q) : dAll (zX10_few_67 k57 n q x1 x2 x3 x4) (fun o => Fm w o.2) := by
  unfold zX10_few_67
  exact dA_fix (fun (a : dS × Int32 × Int32 × Int32 × Int32) => Fm w a.1) (fun k hk a ha => lm_zX10_few_67b w k57 hk57 _ (fun q x1 x2 x3 x4 hq => hk (q, x1, x2, x3, x4) hq) a.1 a.2.1 a.2.2.1 a.2.2.2.1 a.2.2.2.2 ha) n _ h

theorem lm_zX10_few_57b (w : dS) (k57 : dS → Int32 → Int32 → Int32 → Option (Int64 × dS)) (hk57 : ∀ (y0 : dS) (y1 : Int32) (y2 : Int32) (y3 : Int32), Fm w y0 → dAll (k57 y0 y1 y2 y3) (fun o => Fm w o.2)) (q : dS) (x1 : Int32) (x2 : Int32) (x3 : Int32) (h : Fm w q) : dAll (zX10_few_57b k57 q x1 x2 x3) (fun o => Fm w o.2) := by
  unfold zX10_few_57b
  refine dA_if (fun _ => ?_) (fun _ => ?_)
  · exact lm_zX10_few_151 w dF q x1 0 0 h
  · exact lm_zX10_few_67 w k57 hk57 dF q x1 x2 x3 (x1 - 1 : Int32) h

theorem lm_zX10_few_57 (w : dS) (n : Nat) (q : dS) (x1 : Int32) (x2 : Int32) (x3 : Int32) (h : Fm w q) : dAll (zX10_few_57 n q x1 x2 x3) (fun o => Fm w o.2) := by
  unfold zX10_few_57
  exact dA_fix (fun (a : dS × Int32 × Int32 × Int32) => Fm w a.1) (fun k hk a ha => lm_zX10_few_57b w  _ (fun q x1 x2 x3 hq => hk (q, x1, x2, x3) hq) a.1 a.2.1 a.2.2.1 a.2.2.2 ha) n _ h

theorem lm_zX10_few_48 (w : dS) (k26 : dS → Int32 → Int32 → Int32 → Option (Int64 × dS)) (hk26 : ∀ (y0 : dS) (y1 : Int32) (y2 : Int32) (y3 : Int32), Fm w y0 → dAll (k26 y0 y1 y2 y3) (fun o => Fm w o.2)) (q : dS) (x1 : Int32) (x2 : Int32) (x3 : Int32) (y0 : Int64) (y1 : Int32) (h : Fm w q) : dAll (zX10_few_48 k26 q x1 x2 x3 y0 y1) (fun o => Fm w o.2) := by
  unfold zX10_few_48
  refine dA_G (fun _ => ?_)
  refine dA_L (fun q2 e_1 => ?_)
  have hq2 : Fm w q2 := by rw [e_1]; exact h
  exact hk26 q2 x1 x2 (x3 + 1) hq2

theorem lm_zX10_few_26b (w : dS) (k26 : dS → Int32 → Int32 → Int32 → Option (Int64 × dS)) (hk26 : ∀ (y0 : dS) (y1 : Int32) (y2 : Int32) (y3 : Int32), Fm w y0 → dAll (k26 y0 y1 y2 y3) (fun o => Fm w o.2)) (q : dS) (x1 : Int32) (x2 : Int32) (x3 : Int32) (h : Fm w q) : dAll (zX10_few_26b k26 q x1 x2 x3) (fun o => Fm w o.2) := by
  unfold zX10_few_26b
  refine dA_if (fun _ => ?_) (fun _ => ?_)
  · exact lm_zX10_few_57 w dF q x1 x2 0 h
  · refine dA_if (fun _ => ?_) (fun _ => ?_)
    · exact lm_zX10_few_48 w k26 hk26 q x1 x2 x3 1000000000000 x3 h
    · exact lm_zX10_few_48 w k26 hk26 q x1 x2 x3 0 x3 h

theorem lm_zX10_few_26 (w : dS) (n : Nat) (q : dS) (x1 : Int32) (x2 : Int32) (x3 : Int32) (h : Fm w q) : dAll (zX10_few_26 n q x1 x2 x3) (fun o => Fm w o.2) := by
  unfold zX10_few_26
  exact dA_fix (fun (a : dS × Int32 × Int32 × Int32) => Fm w a.1) (fun k hk a ha => lm_zX10_few_26b w  _ (fun q x1 x2 x3 hq => hk (q, x1, x2, x3) hq) a.1 a.2.1 a.2.2.1 a.2.2.2 ha) n _ h

theorem lm_zX10_few_20 (w : dS) (q : dS) (h : Fm w q) : dAll (zX10_few_20 q) (fun o => Fm w o.2) := by
  unfold zX10_few_20
  exact dA_some h

theorem lm_zX10_few (w : dS) (q : dS) (p1 : Int32) (p2 : Int32) (h : Fm w q) : dAll (zX10_few q p1 p2) (fun o => Fm w o.2) := by
  unfold zX10_few
  refine dA_V dA_tr (fun r1 _ => ?_)
  refine dA_if (fun _ => ?_) (fun _ => ?_)
  · exact lm_zX10_few_20 w q h
  · refine dA_V dA_tr (fun r3 _ => ?_)
    refine dA_if (fun _ => ?_) (fun _ => ?_)
    · exact lm_zX10_few_20 w q h
    · exact lm_zX10_few_26 w dF q p1 p2 0 h

theorem lm_zX10_stopped (w : dS) (q : dS) (h : Fm w q) : dAll (zX10_stopped q) (fun o => Fm w o.2) := by
  unfold zX10_stopped
  exact dA_some h

theorem lm_zX10_goesAlong_174 (w : dS) (q : dS) (y0 : Int32) (h : Fm w q) : dAll (zX10_goesAlong_174 q y0) (fun o => Fm w o) := by
  unfold zX10_goesAlong_174
  refine dA_G (fun _ => ?_)
  refine dA_L (fun q2 e_1 => ?_)
  have hq2 : Fm w q2 := by rw [e_1]; exact (fm_0 (by decide) h)
  refine dA_L (fun q3 e_2 => ?_)
  have hq3 : Fm w q3 := by rw [e_2]; exact (fm_0 (by decide) hq2)
  exact dA_some hq3

theorem lm_zX10_goesAlong_173 (w : dS) (q : dS) (h : Fm w q) : dAll (zX10_goesAlong_173 q) (fun o => Fm w o) := by
  unfold zX10_goesAlong_173
  exact lm_zX10_goesAlong_174 w q 0 h

theorem lm_zX10_goesAlong_151 (w : dS) (q : dS) (y0 : Int32) (h : Fm w q) : dAll (zX10_goesAlong_151 q y0) (fun o => Fm w o) := by
  unfold zX10_goesAlong_151
  refine dA_G (fun _ => ?_)
  refine dA_L (fun q2 e_1 => ?_)
  have hq2 : Fm w q2 := by rw [e_1]; exact (fm_0 (by decide) h)
  refine dA_if (fun _ => ?_) (fun _ => ?_)
  · exact lm_zX10_goesAlong_173 w q2 hq2
  · refine dA_if (fun _ => ?_) (fun _ => ?_)
    · exact lm_zX10_goesAlong_174 w q2 1 hq2
    · exact lm_zX10_goesAlong_173 w q2 hq2

theorem lm_zX10_goesAlong_146 (w : dS) (q : dS) (h : Fm w q) : dAll (zX10_goesAlong_146 q) (fun o => Fm w o) := by
  unfold zX10_goesAlong_146
  exact lm_zX10_goesAlong_151 w q 1 h

theorem lm_zX10_goesAlong_124 (w : dS) (q : dS) (x2 : Int32) (h : Fm w q) : dAll (zX10_goesAlong_124 q x2) (fun o => Fm w o) := by
  unfold zX10_goesAlong_124
  refine dA_L (fun q1 e_1 => ?_)
  have hq1 : Fm w q1 := by rw [e_1]; exact (fm_0 (by decide) h)
  refine dA_B (lm_zX10_passes0 w q1 4 hq1) (fun r2 q4 hq4 => ?_)
  refine dA_if (fun _ => ?_) (fun _ => ?_)
  · exact lm_zX10_goesAlong_146 w q4 hq4
  · refine dA_B (lm_zX10_testOf w 10 q4 x2 hq4) (fun r5 q7 hq7 => ?_)
    refine dA_if (fun _ => ?_) (fun _ => ?_)
    · exact lm_zX10_goesAlong_151 w q7 0 hq7
    · exact lm_zX10_goesAlong_146 w q7 hq7

theorem lm_zX10_goesAlong_80 (w : dS) (q : dS) (x2 : Int32) (y0 : Int32) (h : Fm w q) : dAll (zX10_goesAlong_80 q x2 y0) (fun o => Fm w o) := by
  unfold zX10_goesAlong_80
  refine dA_G (fun _ => ?_)
  refine dA_L (fun q2 e_1 => ?_)
  have hq2 : Fm w q2 := by rw [e_1]; exact (fm_0 (by decide) h)
  refine dA_L (fun q3 e_2 => ?_)
  have hq3 : Fm w q3 := by rw [e_2]; exact (fm_0 (by decide) hq2)
  refine dA_B (lm_zX10_passes0 w q3 26 hq3) (fun r4 q6 hq6 => ?_)
  refine dA_if (fun _ => ?_) (fun _ => ?_)
  · exact lm_zX10_goesAlong_124 w q6 x2 hq6
  · refine dA_G (fun _ => ?_)
    refine dA_L (fun v8 e_3 => ?_)
    refine dA_L (fun q9 e_4 => ?_)
    have hq9 : Fm w q9 := by rw [e_4]; exact (fm_0 (by decide) hq6)
    refine dA_L (fun q10 e_5 => ?_)
    have hq10 : Fm w q10 := by rw [e_5]; exact (fm_0 (by decide) hq9)
    exact lm_zX10_goesAlong_124 w q10 x2 hq10

theorem lm_zX10_goesAlong_64 (w : dS) (q : dS) (x2 : Int32) (y0 : Int64) (h : Fm w q) : dAll (zX10_goesAlong_64 q x2 y0) (fun o => Fm w o) := by
  unfold zX10_goesAlong_64
  refine dA_L (fun q1 e_1 => ?_)
  have hq1 : Fm w q1 := by rw [e_1]; exact h
  refine dA_if (fun _ => ?_) (fun _ => ?_)
  · exact lm_zX10_goesAlong_80 w q1 x2 1 hq1
  · exact lm_zX10_goesAlong_80 w q1 x2 0 hq1

theorem lm_zX10_goesAlong (w : dS) (q : dS) (p1 : Int32) (p2 : Int32) (h : Fm w q) : dAll (zX10_goesAlong q p1 p2) (fun o => Fm w o) := by
  unfold zX10_goesAlong
  refine dA_L (fun q1 e_1 => ?_)
  have hq1 : Fm w q1 := by rw [e_1]; exact (fm_0 (by decide) h)
  refine dA_L (fun q2 e_2 => ?_)
  have hq2 : Fm w q2 := by rw [e_2]; exact (fm_0 (by decide) hq1)
  refine dA_L (fun q3 e_3 => ?_)
  have hq3 : Fm w q3 := by rw [e_3]; exact (fm_0 (by decide) hq2)
  refine dA_B (lm_zX10_codeAt w q3 (q3.1 0 22) hq3) (fun r4 q6 hq6 => ?_)
  refine dA_L (fun q7 e_4 => ?_)
  have hq7 : Fm w q7 := by rw [e_4]; exact (fm_0 (by decide) hq6)
  refine dA_L (fun q8 e_5 => ?_)
  have hq8 : Fm w q8 := by rw [e_5]; exact (fm_0 (by decide) hq7)
  refine dA_L (fun q9 e_6 => ?_)
  have hq9 : Fm w q9 := by rw [e_6]; exact (fm_0 (by decide) hq8)
  refine dA_if (fun _ => ?_) (fun _ => ?_)
  · exact lm_zX10_goesAlong_64 w q9 p2 0 hq9
  · refine dA_B (lm_zX10_sumOf w 10 q9 p2 hq9) (fun r10 q12 hq12 => ?_)
    exact lm_zX10_goesAlong_64 w q12 p2 r10 hq12

theorem lm_zX10_obeys_86 (w : dS) (q : dS) (x1 : Int32) (y0 : Int32) (h : Fm w q) : dAll (zX10_obeys_86 q x1 y0) (fun o => Fm w o.2) := by
  unfold zX10_obeys_86
  refine dA_L (fun q1 e_1 => ?_)
  have hq1 : Fm w q1 := by rw [e_1]; exact (fm_0 (by decide) h)
  exact dA_some hq1

theorem lm_zX10_runs_67 (w : dS) (k19 : dS → Int32 → Int32 → Int32 → Int32 → Option (Int32 × dS)) (hk19 : ∀ (y0 : dS) (y1 : Int32) (y2 : Int32) (y3 : Int32) (y4 : Int32), Fm w y0 → dAll (k19 y0 y1 y2 y3 y4) (fun o => Fm w o.2)) (q : dS) (x1 : Int32) (x2 : Int32) (x3 : Int32) (x4 : Int32) (h : Fm w q) : dAll (zX10_runs_67 k19 q x1 x2 x3 x4) (fun o => Fm w o.2) := by
  unfold zX10_runs_67
  exact hk19 q x1 x2 x3 (x4 + 1) h

theorem lm_zX10_runs_55 (w : dS) (q : dS) (h : Fm w q) : dAll (zX10_runs_55 q) (fun o => Fm w o.2) := by
  unfold zX10_runs_55
  exact dA_some h

theorem lm_zX10_draws (w : dS) (q : dS) (p1 : Int32) (h : Fm w q) : dAll (zX10_draws q p1) (fun o => Fm w o.2) := by
  unfold zX10_draws
  refine dA_L (fun v1 e_1 => ?_)
  refine dA_L (fun q2 e_2 => ?_)
  have hq2 : Fm w q2 := by rw [e_2]; exact (fm_0 (by decide) h)
  refine dA_G (fun _ => ?_)
  exact dA_some hq2

theorem lm_zX10_years_20 (w : dS) (q : dS) (h : Fm w q) : dAll (zX10_years_20 q) (fun o => Fm w o.2) := by
  unfold zX10_years_20
  refine dA_B (lm_zX10_refuses w q (-1) h) (fun r1 q3 hq3 => ?_)
  exact dA_some hq3

theorem lm_zX10_drawn_37 (w : dS) (q : dS) (x1 : Int32) (y0 : Int32) (h : Fm w q) : dAll (zX10_drawn_37 q x1 y0) (fun o => Fm w o.2) := by
  unfold zX10_drawn_37
  refine dA_G (fun _ => ?_)
  refine dA_L (fun v2 e_1 => ?_)
  exact dA_some h

theorem lm_zX10_drawn_21 (w : dS) (q : dS) (h : Fm w q) : dAll (zX10_drawn_21 q) (fun o => Fm w o.2) := by
  unfold zX10_drawn_21
  exact dA_some h

theorem lm_zX10_drawn (w : dS) (q : dS) (p1 : Int32) (p2 : Int32) (h : Fm w q) : dAll (zX10_drawn q p1 p2) (fun o => Fm w o.2) := by
  unfold zX10_drawn
  refine dA_V dA_tr (fun r1 _ => ?_)
  refine dA_if (fun _ => ?_) (fun _ => ?_)
  · exact lm_zX10_drawn_21 w q h
  · refine dA_V dA_tr (fun r3 _ => ?_)
    refine dA_if (fun _ => ?_) (fun _ => ?_)
    · exact lm_zX10_drawn_21 w q h
    · refine dA_if (fun _ => ?_) (fun _ => ?_)
      · exact lm_zX10_drawn_37 w q p1 0 h
      · exact lm_zX10_drawn_37 w q p1 6 h

theorem lm_zX10_onHeads_4b (w : dS) (k4 : dS → Int32 → Int32 → Option (Int32 × dS)) (hk4 : ∀ (y0 : dS) (y1 : Int32) (y2 : Int32), Fm w y0 → dAll (k4 y0 y1 y2) (fun o => Fm w o.2)) (q : dS) (x1 : Int32) (x2 : Int32) (h : Fm w q) : dAll (zX10_onHeads_4b k4 q x1 x2) (fun o => Fm w o.2) := by
  unfold zX10_onHeads_4b
  refine dA_B (lm_zX10_size w q h) (fun r1 q3 hq3 => ?_)
  refine dA_if (fun _ => ?_) (fun _ => ?_)
  · exact dA_some hq3
  · refine dA_G (fun _ => ?_)
    refine dA_L (fun v5 e_1 => ?_)
    exact hk4 q3 (x1 + v5) (x2 + 1) hq3

theorem lm_zX10_onHeads_4 (w : dS) (n : Nat) (q : dS) (x1 : Int32) (x2 : Int32) (h : Fm w q) : dAll (zX10_onHeads_4 n q x1 x2) (fun o => Fm w o.2) := by
  unfold zX10_onHeads_4
  exact dA_fix (fun (a : dS × Int32 × Int32) => Fm w a.1) (fun k hk a ha => lm_zX10_onHeads_4b w  _ (fun q x1 x2 hq => hk (q, x1, x2) hq) a.1 a.2.1 a.2.2 ha) n _ h

theorem lm_zX10_onHeads (w : dS) (q : dS) (h : Fm w q) : dAll (zX10_onHeads q) (fun o => Fm w o.2) := by
  unfold zX10_onHeads
  exact lm_zX10_onHeads_4 w dF q 0 0 h

theorem lm_zX10_isOrderedNow (w : dS) (q : dS) (h : Fm w q) : dAll (zX10_isOrderedNow q) (fun o => Fm w o.2) := by
  unfold zX10_isOrderedNow
  refine dA_B (lm_zX10_size w q h) (fun r1 q3 hq3 => ?_)
  refine dA_B (lm_zX10_canStay w q3 ((1 <<< ((r1 : Int32) &&& 31) : Int32) - 1 : Int32) hq3) (fun r4 q6 hq6 => ?_)
  refine dA_G (fun _ => ?_)
  exact dA_some hq6

theorem lm_zX10_count_190 (w : dS) (q : dS) (y0 : Int32) (h : Fm w q) : dAll (zX10_count_190 q y0) (fun o => Fm w o.2) := by
  unfold zX10_count_190
  exact dA_some h

theorem lm_zX10_count (w : dS) (q : dS) (p1 : Int32) (h : Fm w q) : dAll (zX10_count q p1) (fun o => Fm w o.2) := by
  unfold zX10_count
  refine dA_if (fun _ => ?_) (fun _ => ?_)
  · refine dA_B (lm_zX10_size w q h) (fun r2 q4 hq4 => ?_)
    exact dA_some hq4
  · refine dA_if (fun _ => ?_) (fun _ => ?_)
    · refine dA_B (lm_zX10_onHeads w q h) (fun r6 q8 hq8 => ?_)
      exact dA_some hq8
    · refine dA_if (fun _ => ?_) (fun _ => ?_)
      · exact dA_some h
      · refine dA_if (fun _ => ?_) (fun _ => ?_)
        · exact dA_some h
        · refine dA_if (fun _ => ?_) (fun _ => ?_)
          · exact dA_some h
          · refine dA_if (fun _ => ?_) (fun _ => ?_)
            · exact dA_some h
            · refine dA_if (fun _ => ?_) (fun _ => ?_)
              · exact dA_some h
              · refine dA_if (fun _ => ?_) (fun _ => ?_)
                · refine dA_G (fun _ => ?_)
                  refine dA_L (fun v16 e_1 => ?_)
                  exact dA_some h
                · refine dA_if (fun _ => ?_) (fun _ => ?_)
                  · refine dA_G (fun _ => ?_)
                    refine dA_L (fun v19 e_2 => ?_)
                    exact dA_some h
                  · refine dA_if (fun _ => ?_) (fun _ => ?_)
                    · refine dA_G (fun _ => ?_)
                      refine dA_L (fun v22 e_3 => ?_)
                      exact dA_some h
                    · refine dA_if (fun _ => ?_) (fun _ => ?_)
                      · exact dA_some h
                      · refine dA_if (fun _ => ?_) (fun _ => ?_)
                        · exact dA_some h
                        · refine dA_if (fun _ => ?_) (fun _ => ?_)
                          · exact dA_some h
                          · refine dA_if (fun _ => ?_) (fun _ => ?_)
                            · refine dA_V dA_tr (fun r27 _ => ?_)
                              refine dA_G (fun _ => ?_)
                              refine dA_L (fun v30 e_4 => ?_)
                              exact dA_some h
                            · refine dA_if (fun _ => ?_) (fun _ => ?_)
                              · refine dA_V dA_tr (fun r32 _ => ?_)
                                refine dA_G (fun _ => ?_)
                                refine dA_L (fun v35 e_5 => ?_)
                                exact dA_some h
                              · refine dA_if (fun _ => ?_) (fun _ => ?_)
                                · refine dA_V dA_tr (fun r37 _ => ?_)
                                  refine dA_G (fun _ => ?_)
                                  refine dA_L (fun v40 e_6 => ?_)
                                  exact dA_some h
                                · refine dA_if (fun _ => ?_) (fun _ => ?_)
                                  · refine dA_V dA_tr (fun r42 _ => ?_)
                                    refine dA_G (fun _ => ?_)
                                    refine dA_L (fun v45 e_7 => ?_)
                                    exact dA_some h
                                  · refine dA_if (fun _ => ?_) (fun _ => ?_)
                                    · refine dA_B (lm_zX10_isOrderedNow w q h) (fun r47 q49 hq49 => ?_)
                                      refine dA_if (fun _ => ?_) (fun _ => ?_)
                                      · exact lm_zX10_count_190 w q49 0 hq49
                                      · exact lm_zX10_count_190 w q49 1 hq49
                                    · exact dA_some h

theorem lm_zX10_status (w : dS) (q : dS) (h : Fm w q) : dAll (zX10_status q) (fun o => Fm w o.2) := by
  unfold zX10_status
  exact dA_some h
