/-- what lies aside stays -/
def F5 (w q : dS) : Prop := q.1 5 = w.1 5 ∧ q.1 15 = w.1 15
theorem f5_r {w q : dS} {j k : Nat} {v : Int32} (hj : ¬ j = 5 ∧ ¬ j = 15) (h : F5 w q) : F5 w (dui q j k v) :=
  ⟨(dui_o (fun z => hj.1 z.symm)).trans h.1, (dui_o (fun z => hj.2 z.symm)).trans h.2⟩
theorem f5_rf {w : dS} : F5 w w := ⟨rfl, rfl⟩

theorem l5_zX10_size (w : dS) (q : dS) (h : F5 w q) : dAll (zX10_size q) (fun o => F5 w o.2) := by
  unfold zX10_size
  exact dA_some h

theorem l5_zX10_isPlace (w : dS) (q : dS) (p1 : Int32) (h : F5 w q) : dAll (zX10_isPlace q p1) (fun o => F5 w o.2) := by
  unfold zX10_isPlace
  refine dA_B (l5_zX10_size w q h) (fun r1 q3 hq3 => ?_)
  refine dA_V dA_tr (fun r4 _ => ?_)
  refine dA_G (fun _ => ?_)
  exact dA_some hq3

theorem l5_zX10_setsAsked (w : dS) (q : dS) (p1 : Int32) (p2 : Int32) (p3 : Int32) (h : F5 w q) : dAll (zX10_setsAsked q p1 p2 p3) (fun o => F5 w o) := by
  unfold zX10_setsAsked
  refine dA_B (l5_zX10_size w q h) (fun r1 q3 hq3 => ?_)
  refine dA_L (fun q4 e_1 => ?_)
  have hq4 : F5 w q4 := by rw [e_1]; exact (f5_r (by decide) hq3)
  refine dA_L (fun q5 e_2 => ?_)
  have hq5 : F5 w q5 := by rw [e_2]; exact (f5_r (by decide) hq4)
  refine dA_L (fun q6 e_3 => ?_)
  have hq6 : F5 w q6 := by rw [e_3]; exact (f5_r (by decide) hq5)
  refine dA_L (fun q7 e_4 => ?_)
  have hq7 : F5 w q7 := by rw [e_4]; exact (f5_r (by decide) hq6)
  refine dA_L (fun q8 e_5 => ?_)
  have hq8 : F5 w q8 := by rw [e_5]; exact (f5_r (by decide) hq7)
  refine dA_L (fun q9 e_6 => ?_)
  have hq9 : F5 w q9 := by rw [e_6]; exact (f5_r (by decide) hq8)
  exact dA_some hq9

theorem l5_zX10_setsFloor (w : dS) (q : dS) (p1 : Int32) (h : F5 w q) : dAll (zX10_setsFloor q p1) (fun o => F5 w o) := by
  unfold zX10_setsFloor
  refine dA_L (fun q1 e_1 => ?_)
  have hq1 : F5 w q1 := by rw [e_1]; exact (f5_r (by decide) h)
  refine dA_L (fun q2 e_2 => ?_)
  have hq2 : F5 w q2 := by rw [e_2]; exact (f5_r (by decide) hq1)
  refine dA_L (fun q3 e_3 => ?_)
  have hq3 : F5 w q3 := by rw [e_3]; exact (f5_r (by decide) hq2)
  refine dA_G (fun _ => ?_)
  refine dA_L (fun v5 e_4 => ?_)
  refine dA_G (fun _ => ?_)
  refine dA_L (fun v7 e_5 => ?_)
  refine dA_V (l5_zX10_setsAsked w q3 v5 p1 v7 hq3) (fun q10 hq10 => ?_)
  exact dA_some hq10

theorem l5_zX10_codeAt_21 (w : dS) (q : dS) (y0 : Int32) (h : F5 w q) : dAll (zX10_codeAt_21 q y0) (fun o => F5 w o.2) := by
  unfold zX10_codeAt_21
  exact dA_some h

theorem l5_zX10_codeAt (w : dS) (q : dS) (p1 : Int32) (h : F5 w q) : dAll (zX10_codeAt q p1) (fun o => F5 w o.2) := by
  unfold zX10_codeAt
  refine dA_if (fun _ => ?_) (fun _ => ?_)
  · exact l5_zX10_codeAt_21 w q 0 h
  · refine dA_G (fun _ => ?_)
    refine dA_L (fun v2 e_1 => ?_)
    exact l5_zX10_codeAt_21 w q v2 h

theorem l5_zX10_passes0_32 (w : dS) (q : dS) (x2 : Int32) (h : F5 w q) : dAll (zX10_passes0_32 q x2) (fun o => F5 w o.2) := by
  unfold zX10_passes0_32
  refine dA_G (fun _ => ?_)
  exact dA_some h

theorem l5_zX10_passes0_17 (w : dS) (q : dS) (y0 : Int32) (h : F5 w q) : dAll (zX10_passes0_17 q y0) (fun o => F5 w o.2) := by
  unfold zX10_passes0_17
  refine dA_if (fun _ => ?_) (fun _ => ?_)
  · exact l5_zX10_passes0_32 w q y0 h
  · refine dA_L (fun q1 e_1 => ?_)
    have hq1 : F5 w q1 := by rw [e_1]; exact (f5_r (by decide) h)
    exact l5_zX10_passes0_32 w q1 y0 hq1

theorem l5_zX10_passes0 (w : dS) (q : dS) (p1 : Int32) (h : F5 w q) : dAll (zX10_passes0 q p1) (fun o => F5 w o.2) := by
  unfold zX10_passes0
  refine dA_B (l5_zX10_codeAt w q (q.1 0 22) h) (fun r1 q3 hq3 => ?_)
  refine dA_if (fun _ => ?_) (fun _ => ?_)
  · exact l5_zX10_passes0_17 w q3 1 hq3
  · exact l5_zX10_passes0_17 w q3 0 hq3

theorem l5_zX10_lessThan_30 (w : dS) (k4 : dS → Int32 → Int32 → Int32 → Option (Int32 × dS)) (hk4 : ∀ (y0 : dS) (y1 : Int32) (y2 : Int32) (y3 : Int32), F5 w y0 → dAll (k4 y0 y1 y2 y3) (fun o => F5 w o.2)) (q : dS) (x1 : Int32) (x3 : Int32) (y0 : Int32) (y1 : Int32) (h : F5 w q) : dAll (zX10_lessThan_30 k4 q x1 x3 y0 y1) (fun o => F5 w o.2) := by
  unfold zX10_lessThan_30
  exact hk4 q x1 (y1 + y0) (x3 + 1) h

theorem l5_zX10_lessThan_4b (w : dS) (k4 : dS → Int32 → Int32 → Int32 → Option (Int32 × dS)) (hk4 : ∀ (y0 : dS) (y1 : Int32) (y2 : Int32) (y3 : Int32), F5 w y0 → dAll (k4 y0 y1 y2 y3) (fun o => F5 w o.2)) (q : dS) (x1 : Int32) (x2 : Int32) (x3 : Int32) (h : F5 w q) : dAll (zX10_lessThan_4b k4 q x1 x2 x3) (fun o => F5 w o.2) := by
  unfold zX10_lessThan_4b
  refine dA_B (l5_zX10_size w q h) (fun r1 q3 hq3 => ?_)
  refine dA_if (fun _ => ?_) (fun _ => ?_)
  · exact dA_some hq3
  · refine dA_G (fun _ => ?_)
    refine dA_L (fun v5 e_1 => ?_)
    refine dA_if (fun _ => ?_) (fun _ => ?_)
    · exact l5_zX10_lessThan_30 w k4 hk4 q3 x1 x3 0 x2 hq3
    · exact l5_zX10_lessThan_30 w k4 hk4 q3 x1 x3 1 x2 hq3

theorem l5_zX10_lessThan_4 (w : dS) (n : Nat) (q : dS) (x1 : Int32) (x2 : Int32) (x3 : Int32) (h : F5 w q) : dAll (zX10_lessThan_4 n q x1 x2 x3) (fun o => F5 w o.2) := by
  unfold zX10_lessThan_4
  exact dA_fix (fun (a : dS × Int32 × Int32 × Int32) => F5 w a.1) (fun k hk a ha => l5_zX10_lessThan_4b w  _ (fun q x1 x2 x3 hq => hk (q, x1, x2, x3) hq) a.1 a.2.1 a.2.2.1 a.2.2.2 ha) n _ h

theorem l5_zX10_lessThan (w : dS) (q : dS) (p1 : Int32) (h : F5 w q) : dAll (zX10_lessThan q p1) (fun o => F5 w o.2) := by
  unfold zX10_lessThan
  exact l5_zX10_lessThan_4 w dF q p1 0 0 h

theorem l5_zX10_gaps_95 (w : dS) (k41 : dS → Int32 → Int32 → Option (Int32 × dS)) (hk41 : ∀ (y0 : dS) (y1 : Int32) (y2 : Int32), F5 w y0 → dAll (k41 y0 y1 y2) (fun o => F5 w o.2)) (q : dS) (x2 : Int32) (y0 : Int32) (y1 : Int32) (h : F5 w q) : dAll (zX10_gaps_95 k41 q x2 y0 y1) (fun o => F5 w o.2) := by
  unfold zX10_gaps_95
  exact hk41 q (y1 + y0) (x2 + 1) h

theorem l5_zX10_gaps_90 (w : dS) (k41 : dS → Int32 → Int32 → Option (Int32 × dS)) (hk41 : ∀ (y0 : dS) (y1 : Int32) (y2 : Int32), F5 w y0 → dAll (k41 y0 y1 y2) (fun o => F5 w o.2)) (q : dS) (x2 : Int32) (y0 : Int32) (h : F5 w q) : dAll (zX10_gaps_90 k41 q x2 y0) (fun o => F5 w o.2) := by
  unfold zX10_gaps_90
  exact l5_zX10_gaps_95 w k41 hk41 q x2 0 y0 h

theorem l5_zX10_gaps_41b (w : dS) (k41 : dS → Int32 → Int32 → Option (Int32 × dS)) (hk41 : ∀ (y0 : dS) (y1 : Int32) (y2 : Int32), F5 w y0 → dAll (k41 y0 y1 y2) (fun o => F5 w o.2)) (q : dS) (x1 : Int32) (x2 : Int32) (h : F5 w q) : dAll (zX10_gaps_41b k41 q x1 x2) (fun o => F5 w o.2) := by
  unfold zX10_gaps_41b
  refine dA_B (l5_zX10_size w q h) (fun r1 q3 hq3 => ?_)
  refine dA_if (fun _ => ?_) (fun _ => ?_)
  · exact dA_some hq3
  · refine dA_G (fun _ => ?_)
    refine dA_L (fun v5 e_1 => ?_)
    refine dA_B (l5_zX10_lessThan w q3 v5 hq3) (fun r6 q8 hq8 => ?_)
    refine dA_G (fun _ => ?_)
    refine dA_L (fun v10 e_2 => ?_)
    refine dA_B (l5_zX10_lessThan w q8 v10 hq8) (fun r11 q13 hq13 => ?_)
    refine dA_if (fun _ => ?_) (fun _ => ?_)
    · exact l5_zX10_gaps_90 w k41 hk41 q13 x2 x1 hq13
    · refine dA_if (fun _ => ?_) (fun _ => ?_)
      · exact l5_zX10_gaps_90 w k41 hk41 q13 x2 x1 hq13
      · exact l5_zX10_gaps_95 w k41 hk41 q13 x2 1 x1 hq13

theorem l5_zX10_gaps_41 (w : dS) (n : Nat) (q : dS) (x1 : Int32) (x2 : Int32) (h : F5 w q) : dAll (zX10_gaps_41 n q x1 x2) (fun o => F5 w o.2) := by
  unfold zX10_gaps_41
  exact dA_fix (fun (a : dS × Int32 × Int32) => F5 w a.1) (fun k hk a ha => l5_zX10_gaps_41b w  _ (fun q x1 x2 hq => hk (q, x1, x2) hq) a.1 a.2.1 a.2.2 ha) n _ h

theorem l5_zX10_gaps_38 (w : dS) (q : dS) (y0 : Int32) (h : F5 w q) : dAll (zX10_gaps_38 q y0) (fun o => F5 w o.2) := by
  unfold zX10_gaps_38
  exact l5_zX10_gaps_41 w dF q y0 0 h

theorem l5_zX10_gaps_37 (w : dS) (q : dS) (h : F5 w q) : dAll (zX10_gaps_37 q) (fun o => F5 w o.2) := by
  unfold zX10_gaps_37
  exact l5_zX10_gaps_38 w q 0 h

theorem l5_zX10_gaps (w : dS) (q : dS) (h : F5 w q) : dAll (zX10_gaps q) (fun o => F5 w o.2) := by
  unfold zX10_gaps
  refine dA_B (l5_zX10_size w q h) (fun r1 q3 hq3 => ?_)
  refine dA_if (fun _ => ?_) (fun _ => ?_)
  · exact l5_zX10_gaps_37 w q3 hq3
  · refine dA_B (l5_zX10_size w q3 hq3) (fun r4 q6 hq6 => ?_)
    refine dA_G (fun _ => ?_)
    refine dA_L (fun v8 e_1 => ?_)
    refine dA_B (l5_zX10_lessThan w q6 v8 hq6) (fun r9 q11 hq11 => ?_)
    refine dA_B (l5_zX10_size w q11 hq11) (fun r12 q14 hq14 => ?_)
    refine dA_if (fun _ => ?_) (fun _ => ?_)
    · exact l5_zX10_gaps_37 w q14 hq14
    · exact l5_zX10_gaps_38 w q14 1 hq14

theorem l5_zX10_orderValue_86 (w : dS) (q : dS) (y0 : Int32) (h : F5 w q) : dAll (zX10_orderValue_86 q y0) (fun o => F5 w o.2) := by
  unfold zX10_orderValue_86
  exact dA_some h

theorem l5_zX10_orderValue_65 (w : dS) (q : dS) (y0 : Int32) (h : F5 w q) : dAll (zX10_orderValue_65 q y0) (fun o => F5 w o.2) := by
  unfold zX10_orderValue_65
  exact dA_some h

theorem l5_zX10_orderValue (w : dS) (q : dS) (p1 : Int32) (p2 : Int32) (h : F5 w q) : dAll (zX10_orderValue q p1 p2) (fun o => F5 w o.2) := by
  unfold zX10_orderValue
  refine dA_if (fun _ => ?_) (fun _ => ?_)
  · refine dA_B (l5_zX10_isPlace w q p2 h) (fun r2 q4 hq4 => ?_)
    refine dA_if (fun _ => ?_) (fun _ => ?_)
    · exact l5_zX10_orderValue_65 w q4 (-1) hq4
    · refine dA_G (fun _ => ?_)
      refine dA_L (fun v6 e_1 => ?_)
      exact l5_zX10_orderValue_65 w q4 v6 hq4
  · refine dA_if (fun _ => ?_) (fun _ => ?_)
    · exact dA_some h
    · refine dA_if (fun _ => ?_) (fun _ => ?_)
      · exact dA_some h
      · refine dA_if (fun _ => ?_) (fun _ => ?_)
        · exact dA_some h
        · refine dA_if (fun _ => ?_) (fun _ => ?_)
          · exact dA_some h
          · refine dA_if (fun _ => ?_) (fun _ => ?_)
            · refine dA_B (l5_zX10_gaps w q h) (fun r12 q14 hq14 => ?_)
              exact dA_some hq14
            · refine dA_if (fun _ => ?_) (fun _ => ?_)
              · refine dA_B (l5_zX10_isPlace w q p2 h) (fun r16 q18 hq18 => ?_)
                refine dA_if (fun _ => ?_) (fun _ => ?_)
                · exact l5_zX10_orderValue_86 w q18 (-1) hq18
                · refine dA_G (fun _ => ?_)
                  refine dA_L (fun v20 e_2 => ?_)
                  exact l5_zX10_orderValue_86 w q18 v20 hq18
              · refine dA_B (l5_zX10_gaps w q h) (fun r21 q23 hq23 => ?_)
                exact dA_some hq23

theorem l5_zX10_partOf_157 (w : dS) (kU : dS → Int32 → Option (Int64 × dS)) (hkU : ∀ (y0 : dS) (y1 : Int32), F5 w y0 → dAll (kU y0 y1) (fun o => F5 w o.2)) (q : dS) (y0 : Int64) (h : F5 w q) : dAll (zX10_partOf_157 kU q y0) (fun o => F5 w o.2) := by
  unfold zX10_partOf_157
  exact dA_some h

theorem l5_zX10_partOf_105 (w : dS) (kU : dS → Int32 → Option (Int64 × dS)) (hkU : ∀ (y0 : dS) (y1 : Int32), F5 w y0 → dAll (kU y0 y1) (fun o => F5 w o.2)) (q : dS) (h : F5 w q) : dAll (zX10_partOf_105 kU q) (fun o => F5 w o.2) := by
  unfold zX10_partOf_105
  exact dA_some h

theorem l5_zX10_partOf_94 (w : dS) (kU : dS → Int32 → Option (Int64 × dS)) (hkU : ∀ (y0 : dS) (y1 : Int32), F5 w y0 → dAll (kU y0 y1) (fun o => F5 w o.2)) (q : dS) (x1 : Int32) (x2 : Int32) (x3 : Int32) (h : F5 w q) : dAll (zX10_partOf_94 kU q x1 x2 x3) (fun o => F5 w o.2) := by
  unfold zX10_partOf_94
  refine dA_if (fun _ => ?_) (fun _ => ?_)
  · exact l5_zX10_partOf_105 w kU hkU q h
  · refine dA_if (fun _ => ?_) (fun _ => ?_)
    · refine dA_if (fun _ => ?_) (fun _ => ?_)
      · refine dA_G (fun _ => ?_)
        refine dA_L (fun v7 e_1 => ?_)
        exact dA_some h
      · refine dA_if (fun _ => ?_) (fun _ => ?_)
        · refine dA_G (fun _ => ?_)
          refine dA_L (fun v2 e_2 => ?_)
          exact l5_zX10_partOf_157 w kU hkU q (Int32.toInt64 v2) h
        · refine dA_B (l5_zX10_orderValue w q x2 x3 h) (fun r3 q5 hq5 => ?_)
          exact l5_zX10_partOf_157 w kU hkU q5 (Int32.toInt64 r3) hq5
    · exact l5_zX10_partOf_105 w kU hkU q h

theorem l5_zX10_partOf_70 (w : dS) (kU : dS → Int32 → Option (Int64 × dS)) (hkU : ∀ (y0 : dS) (y1 : Int32), F5 w y0 → dAll (kU y0 y1) (fun o => F5 w o.2)) (q : dS) (x1 : Int32) (x2 : Int32) (h : F5 w q) : dAll (zX10_partOf_70 kU q x1 x2) (fun o => F5 w o.2) := by
  unfold zX10_partOf_70
  refine dA_G (fun _ => ?_)
  refine dA_L (fun v2 e_1 => ?_)
  refine dA_L (fun q3 e_2 => ?_)
  have hq3 : F5 w q3 := by rw [e_2]; exact (f5_r (by decide) h)
  exact l5_zX10_partOf_94 w kU hkU q3 x1 x2 v2 hq3

theorem l5_zX10_partOf (w : dS) (kU : dS → Int32 → Option (Int64 × dS)) (hkU : ∀ (y0 : dS) (y1 : Int32), F5 w y0 → dAll (kU y0 y1) (fun o => F5 w o.2)) (q : dS) (p1 : Int32) (h : F5 w q) : dAll (zX10_partOf kU q p1) (fun o => F5 w o.2) := by
  unfold zX10_partOf
  refine dA_V dA_tr (fun r1 _ => ?_)
  refine dA_B (l5_zX10_passes0 w q r1 h) (fun r3 q5 hq5 => ?_)
  refine dA_if (fun _ => ?_) (fun _ => ?_)
  · refine dA_B (l5_zX10_codeAt w q5 (q5.1 0 22) hq5) (fun r6 q8 hq8 => ?_)
    refine dA_L (fun q9 e_1 => ?_)
    have hq9 : F5 w q9 := by rw [e_1]; exact (f5_r (by decide) hq8)
    refine dA_if (fun _ => ?_) (fun _ => ?_)
    · exact l5_zX10_partOf_94 w kU hkU q9 p1 r6 0 hq9
    · refine dA_if (fun _ => ?_) (fun _ => ?_)
      · exact l5_zX10_partOf_70 w kU hkU q9 p1 r6 hq9
      · refine dA_if (fun _ => ?_) (fun _ => ?_)
        · exact l5_zX10_partOf_70 w kU hkU q9 p1 r6 hq9
        · exact l5_zX10_partOf_94 w kU hkU q9 p1 r6 0 hq9
  · refine dA_B (hkU q5 p1 hq5) (fun r10 q12 hq12 => ?_)
    refine dA_L (fun q13 e_2 => ?_)
    have hq13 : F5 w q13 := by rw [e_2]; exact (f5_r (by decide) hq12)
    exact dA_some hq13

theorem l5_zX10_bounded_37 (w : dS) (q : dS) (y0 : Int64) (h : F5 w q) : dAll (zX10_bounded_37 q y0) (fun o => F5 w o.2) := by
  unfold zX10_bounded_37
  exact dA_some h

theorem l5_zX10_bounded_25 (w : dS) (q : dS) (x1 : Int64) (h : F5 w q) : dAll (zX10_bounded_25 q x1) (fun o => F5 w o.2) := by
  unfold zX10_bounded_25
  refine dA_if (fun _ => ?_) (fun _ => ?_)
  · exact l5_zX10_bounded_37 w q x1 h
  · exact l5_zX10_bounded_37 w q 0 h

theorem l5_zX10_bounded_20 (w : dS) (q : dS) (x1 : Int64) (h : F5 w q) : dAll (zX10_bounded_20 q x1) (fun o => F5 w o.2) := by
  unfold zX10_bounded_20
  refine dA_L (fun q1 e_1 => ?_)
  have hq1 : F5 w q1 := by rw [e_1]; exact (f5_r (by decide) h)
  exact l5_zX10_bounded_25 w q1 x1 hq1

theorem l5_zX10_bounded (w : dS) (q : dS) (p1 : Int64) (p2 : Int32) (h : F5 w q) : dAll (zX10_bounded q p1 p2) (fun o => F5 w o.2) := by
  unfold zX10_bounded
  refine dA_if (fun _ => ?_) (fun _ => ?_)
  · exact l5_zX10_bounded_25 w q p1 h
  · refine dA_if (fun _ => ?_) (fun _ => ?_)
    · exact l5_zX10_bounded_20 w q p1 h
    · refine dA_if (fun _ => ?_) (fun _ => ?_)
      · exact l5_zX10_bounded_25 w q p1 h
      · exact l5_zX10_bounded_20 w q p1 h

theorem l5_zX10_termOf_160 (w : dS) (kU : dS → Int32 → Option (Int64 × dS)) (hkU : ∀ (y0 : dS) (y1 : Int32), F5 w y0 → dAll (kU y0 y1) (fun o => F5 w o.2)) (k6 : dS → Int32 → Int64 → Option (Int64 × dS)) (hk6 : ∀ (y0 : dS) (y1 : Int32) (y2 : Int64), F5 w y0 → dAll (k6 y0 y1 y2) (fun o => F5 w o.2)) (q : dS) (x1 : Int32) (y0 : Int64) (h : F5 w q) : dAll (zX10_termOf_160 kU k6 q x1 y0) (fun o => F5 w o.2) := by
  unfold zX10_termOf_160
  refine dA_B (l5_zX10_bounded w q y0 x1 h) (fun r1 q3 hq3 => ?_)
  exact hk6 q3 x1 r1 hq3

theorem l5_zX10_termOf_121 (w : dS) (kU : dS → Int32 → Option (Int64 × dS)) (hkU : ∀ (y0 : dS) (y1 : Int32), F5 w y0 → dAll (kU y0 y1) (fun o => F5 w o.2)) (k6 : dS → Int32 → Int64 → Option (Int64 × dS)) (hk6 : ∀ (y0 : dS) (y1 : Int32) (y2 : Int64), F5 w y0 → dAll (k6 y0 y1 y2) (fun o => F5 w o.2)) (q : dS) (x1 : Int32) (x2 : Int64) (x4 : Int32) (x5 : Int64) (h : F5 w q) : dAll (zX10_termOf_121 kU k6 q x1 x2 x4 x5) (fun o => F5 w o.2) := by
  unfold zX10_termOf_121
  refine dA_V dA_tr (fun r1 _ => ?_)
  refine dA_if (fun _ => ?_) (fun _ => ?_)
  · exact l5_zX10_termOf_160 w kU hkU k6 hk6 q x1 (x2 * x5 : Int64) h
  · refine dA_V dA_tr (fun r3 _ => ?_)
    refine dA_if (fun _ => ?_) (fun _ => ?_)
    · refine dA_G (fun _ => ?_)
      exact l5_zX10_termOf_160 w kU hkU k6 hk6 q x1 (x2 / x5 : Int64) h
    · refine dA_G (fun _ => ?_)
      exact l5_zX10_termOf_160 w kU hkU k6 hk6 q x1 (x2 - x2 / x5 * x5 : Int64) h

theorem l5_zX10_termOf_115 (w : dS) (kU : dS → Int32 → Option (Int64 × dS)) (hkU : ∀ (y0 : dS) (y1 : Int32), F5 w y0 → dAll (kU y0 y1) (fun o => F5 w o.2)) (k6 : dS → Int32 → Int64 → Option (Int64 × dS)) (hk6 : ∀ (y0 : dS) (y1 : Int32) (y2 : Int64), F5 w y0 → dAll (k6 y0 y1 y2) (fun o => F5 w o.2)) (q : dS) (x1 : Int32) (x2 : Int64) (x4 : Int32) (y0 : Int32) (h : F5 w q) : dAll (zX10_termOf_115 kU k6 q x1 x2 x4 y0) (fun o => F5 w o.2) := by
  unfold zX10_termOf_115
  refine dA_G (fun _ => ?_)
  refine dA_L (fun q2 e_1 => ?_)
  have hq2 : F5 w q2 := by rw [e_1]; exact (f5_r (by decide) h)
  exact l5_zX10_termOf_121 w kU hkU k6 hk6 q2 x1 x2 x4 1 hq2

theorem l5_zX10_termOf_110 (w : dS) (kU : dS → Int32 → Option (Int64 × dS)) (hkU : ∀ (y0 : dS) (y1 : Int32), F5 w y0 → dAll (kU y0 y1) (fun o => F5 w o.2)) (k6 : dS → Int32 → Int64 → Option (Int64 × dS)) (hk6 : ∀ (y0 : dS) (y1 : Int32) (y2 : Int64), F5 w y0 → dAll (k6 y0 y1 y2) (fun o => F5 w o.2)) (q : dS) (x1 : Int32) (x2 : Int64) (x4 : Int32) (h : F5 w q) : dAll (zX10_termOf_110 kU k6 q x1 x2 x4) (fun o => F5 w o.2) := by
  unfold zX10_termOf_110
  exact l5_zX10_termOf_115 w kU hkU k6 hk6 q x1 x2 x4 1 h

theorem l5_zX10_termOf_54 (w : dS) (kU : dS → Int32 → Option (Int64 × dS)) (hkU : ∀ (y0 : dS) (y1 : Int32), F5 w y0 → dAll (kU y0 y1) (fun o => F5 w o.2)) (k6 : dS → Int32 → Int64 → Option (Int64 × dS)) (hk6 : ∀ (y0 : dS) (y1 : Int32) (y2 : Int64), F5 w y0 → dAll (k6 y0 y1 y2) (fun o => F5 w o.2)) (q : dS) (x1 : Int32) (x2 : Int64) (h : F5 w q) : dAll (zX10_termOf_54 kU k6 q x1 x2) (fun o => F5 w o.2) := by
  unfold zX10_termOf_54
  refine dA_B (l5_zX10_codeAt w q (q.1 0 22) h) (fun r1 q3 hq3 => ?_)
  refine dA_L (fun q4 e_1 => ?_)
  have hq4 : F5 w q4 := by rw [e_1]; exact (f5_r (by decide) hq3)
  refine dA_B (l5_zX10_partOf w kU hkU q4 x1 hq4) (fun r5 q7 hq7 => ?_)
  refine dA_V dA_tr (fun r8 _ => ?_)
  refine dA_if (fun _ => ?_) (fun _ => ?_)
  · exact l5_zX10_termOf_121 w kU hkU k6 hk6 q7 x1 x2 r1 r5 hq7
  · refine dA_if (fun _ => ?_) (fun _ => ?_)
    · refine dA_if (fun _ => ?_) (fun _ => ?_)
      · refine dA_if (fun _ => ?_) (fun _ => ?_)
        · exact l5_zX10_termOf_115 w kU hkU k6 hk6 q7 x1 x2 r1 0 hq7
        · exact l5_zX10_termOf_110 w kU hkU k6 hk6 q7 x1 x2 r1 hq7
      · exact l5_zX10_termOf_110 w kU hkU k6 hk6 q7 x1 x2 r1 hq7
    · exact l5_zX10_termOf_121 w kU hkU k6 hk6 q7 x1 x2 r1 r5 hq7

theorem l5_zX10_termOf_6b (w : dS) (kU : dS → Int32 → Option (Int64 × dS)) (hkU : ∀ (y0 : dS) (y1 : Int32), F5 w y0 → dAll (kU y0 y1) (fun o => F5 w o.2)) (k6 : dS → Int32 → Int64 → Option (Int64 × dS)) (hk6 : ∀ (y0 : dS) (y1 : Int32) (y2 : Int64), F5 w y0 → dAll (k6 y0 y1 y2) (fun o => F5 w o.2)) (q : dS) (x1 : Int32) (x2 : Int64) (h : F5 w q) : dAll (zX10_termOf_6b kU k6 q x1 x2) (fun o => F5 w o.2) := by
  unfold zX10_termOf_6b
  refine dA_B (l5_zX10_codeAt w q (q.1 0 22) h) (fun r1 q3 hq3 => ?_)
  refine dA_V dA_tr (fun r4 _ => ?_)
  refine dA_if (fun _ => ?_) (fun _ => ?_)
  · exact l5_zX10_termOf_54 w kU hkU k6 hk6 q3 x1 x2 hq3
  · refine dA_B (l5_zX10_codeAt w q3 (q3.1 0 22) hq3) (fun r6 q8 hq8 => ?_)
    refine dA_V dA_tr (fun r9 _ => ?_)
    refine dA_if (fun _ => ?_) (fun _ => ?_)
    · exact l5_zX10_termOf_54 w kU hkU k6 hk6 q8 x1 x2 hq8
    · refine dA_B (l5_zX10_codeAt w q8 (q8.1 0 22) hq8) (fun r11 q13 hq13 => ?_)
      refine dA_V dA_tr (fun r14 _ => ?_)
      refine dA_if (fun _ => ?_) (fun _ => ?_)
      · exact l5_zX10_termOf_54 w kU hkU k6 hk6 q13 x1 x2 hq13
      · exact dA_some hq13

theorem l5_zX10_termOf_6 (w : dS) (kU : dS → Int32 → Option (Int64 × dS)) (hkU : ∀ (y0 : dS) (y1 : Int32), F5 w y0 → dAll (kU y0 y1) (fun o => F5 w o.2)) (n : Nat) (q : dS) (x1 : Int32) (x2 : Int64) (h : F5 w q) : dAll (zX10_termOf_6 kU n q x1 x2) (fun o => F5 w o.2) := by
  unfold zX10_termOf_6
  exact dA_fix (fun (a : dS × Int32 × Int64) => F5 w a.1) (fun k hk a ha => l5_zX10_termOf_6b w kU hkU _ (fun q x1 x2 hq => hk (q, x1, x2) hq) a.1 a.2.1 a.2.2 ha) n _ h

theorem l5_zX10_termOf (w : dS) (kU : dS → Int32 → Option (Int64 × dS)) (hkU : ∀ (y0 : dS) (y1 : Int32), F5 w y0 → dAll (kU y0 y1) (fun o => F5 w o.2)) (q : dS) (p1 : Int32) (h : F5 w q) : dAll (zX10_termOf kU q p1) (fun o => F5 w o.2) := by
  unfold zX10_termOf
  refine dA_B (l5_zX10_partOf w kU hkU q p1 h) (fun r1 q3 hq3 => ?_)
  exact l5_zX10_termOf_6 w kU hkU dF q3 p1 r1 hq3

theorem l5_zX10_sumOf_95 (w : dS) (kU : dS → Int32 → Option (Int64 × dS)) (hkU : ∀ (y0 : dS) (y1 : Int32), F5 w y0 → dAll (kU y0 y1) (fun o => F5 w o.2)) (k6 : dS → Int32 → Int64 → Option (Int64 × dS)) (hk6 : ∀ (y0 : dS) (y1 : Int32) (y2 : Int64), F5 w y0 → dAll (k6 y0 y1 y2) (fun o => F5 w o.2)) (q : dS) (x1 : Int32) (y0 : Int64) (h : F5 w q) : dAll (zX10_sumOf_95 kU k6 q x1 y0) (fun o => F5 w o.2) := by
  unfold zX10_sumOf_95
  refine dA_B (l5_zX10_bounded w q y0 x1 h) (fun r1 q3 hq3 => ?_)
  exact hk6 q3 x1 r1 hq3

theorem l5_zX10_sumOf_59 (w : dS) (kU : dS → Int32 → Option (Int64 × dS)) (hkU : ∀ (y0 : dS) (y1 : Int32), F5 w y0 → dAll (kU y0 y1) (fun o => F5 w o.2)) (k6 : dS → Int32 → Int64 → Option (Int64 × dS)) (hk6 : ∀ (y0 : dS) (y1 : Int32) (y2 : Int64), F5 w y0 → dAll (k6 y0 y1 y2) (fun o => F5 w o.2)) (q : dS) (x1 : Int32) (x2 : Int64) (y0 : Int32) (h : F5 w q) : dAll (zX10_sumOf_59 kU k6 q x1 x2 y0) (fun o => F5 w o.2) := by
  unfold zX10_sumOf_59
  refine dA_L (fun q1 e_1 => ?_)
  have hq1 : F5 w q1 := by rw [e_1]; exact (f5_r (by decide) h)
  refine dA_B (l5_zX10_termOf w kU hkU q1 x1 hq1) (fun r2 q4 hq4 => ?_)
  refine dA_if (fun _ => ?_) (fun _ => ?_)
  · exact l5_zX10_sumOf_95 w kU hkU k6 hk6 q4 x1 (x2 - r2 : Int64) hq4
  · exact l5_zX10_sumOf_95 w kU hkU k6 hk6 q4 x1 (x2 + r2 : Int64) hq4

theorem l5_zX10_sumOf_38 (w : dS) (kU : dS → Int32 → Option (Int64 × dS)) (hkU : ∀ (y0 : dS) (y1 : Int32), F5 w y0 → dAll (kU y0 y1) (fun o => F5 w o.2)) (k6 : dS → Int32 → Int64 → Option (Int64 × dS)) (hk6 : ∀ (y0 : dS) (y1 : Int32) (y2 : Int64), F5 w y0 → dAll (k6 y0 y1 y2) (fun o => F5 w o.2)) (q : dS) (x1 : Int32) (x2 : Int64) (h : F5 w q) : dAll (zX10_sumOf_38 kU k6 q x1 x2) (fun o => F5 w o.2) := by
  unfold zX10_sumOf_38
  refine dA_B (l5_zX10_codeAt w q (q.1 0 22) h) (fun r1 q3 hq3 => ?_)
  refine dA_V dA_tr (fun r4 _ => ?_)
  refine dA_if (fun _ => ?_) (fun _ => ?_)
  · exact l5_zX10_sumOf_59 w kU hkU k6 hk6 q3 x1 x2 1 hq3
  · exact l5_zX10_sumOf_59 w kU hkU k6 hk6 q3 x1 x2 0 hq3

theorem l5_zX10_sumOf_6b (w : dS) (kU : dS → Int32 → Option (Int64 × dS)) (hkU : ∀ (y0 : dS) (y1 : Int32), F5 w y0 → dAll (kU y0 y1) (fun o => F5 w o.2)) (k6 : dS → Int32 → Int64 → Option (Int64 × dS)) (hk6 : ∀ (y0 : dS) (y1 : Int32) (y2 : Int64), F5 w y0 → dAll (k6 y0 y1 y2) (fun o => F5 w o.2)) (q : dS) (x1 : Int32) (x2 : Int64) (h : F5 w q) : dAll (zX10_sumOf_6b kU k6 q x1 x2) (fun o => F5 w o.2) := by
  unfold zX10_sumOf_6b
  refine dA_B (l5_zX10_codeAt w q (q.1 0 22) h) (fun r1 q3 hq3 => ?_)
  refine dA_V dA_tr (fun r4 _ => ?_)
  refine dA_if (fun _ => ?_) (fun _ => ?_)
  · exact l5_zX10_sumOf_38 w kU hkU k6 hk6 q3 x1 x2 hq3
  · refine dA_B (l5_zX10_codeAt w q3 (q3.1 0 22) hq3) (fun r6 q8 hq8 => ?_)
    refine dA_V dA_tr (fun r9 _ => ?_)
    refine dA_if (fun _ => ?_) (fun _ => ?_)
    · exact l5_zX10_sumOf_38 w kU hkU k6 hk6 q8 x1 x2 hq8
    · exact dA_some hq8

theorem l5_zX10_sumOf_6 (w : dS) (kU : dS → Int32 → Option (Int64 × dS)) (hkU : ∀ (y0 : dS) (y1 : Int32), F5 w y0 → dAll (kU y0 y1) (fun o => F5 w o.2)) (n : Nat) (q : dS) (x1 : Int32) (x2 : Int64) (h : F5 w q) : dAll (zX10_sumOf_6 kU n q x1 x2) (fun o => F5 w o.2) := by
  unfold zX10_sumOf_6
  exact dA_fix (fun (a : dS × Int32 × Int64) => F5 w a.1) (fun k hk a ha => l5_zX10_sumOf_6b w kU hkU _ (fun q x1 x2 hq => hk (q, x1, x2) hq) a.1 a.2.1 a.2.2 ha) n _ h

theorem l5_zX10_sumOf_o (w : dS) (kU : dS → Int32 → Option (Int64 × dS)) (hkU : ∀ (y0 : dS) (y1 : Int32), F5 w y0 → dAll (kU y0 y1) (fun o => F5 w o.2)) (q : dS) (p1 : Int32) (h : F5 w q) : dAll (zX10_sumOf_o kU q p1) (fun o => F5 w o.2) := by
  unfold zX10_sumOf_o
  refine dA_B (l5_zX10_termOf w kU hkU q p1 h) (fun r1 q3 hq3 => ?_)
  exact l5_zX10_sumOf_6 w kU hkU dF q3 p1 r1 hq3

theorem l5_zX10_sumOf (w : dS) (n : Nat) : ∀ (q : dS) (p1 : Int32) (h : F5 w q), dAll (zX10_sumOf n q p1) (fun o => F5 w o.2) := by
  induction n with
  | zero => intro q p1 h o e; cases e
  | succ n ih => intro q p1 h; exact l5_zX10_sumOf_o w (zX10_sumOf n) ih q p1 h

theorem l5_zX10_positiveOf_126 (w : dS) (kV : dS → Int32 → Option (Int32 × dS)) (hkV : ∀ (y0 : dS) (y1 : Int32), F5 w y0 → dAll (kV y0 y1) (fun o => F5 w o.2)) (q : dS) (y0 : Int32) (h : F5 w q) : dAll (zX10_positiveOf_126 kV q y0) (fun o => F5 w o.2) := by
  unfold zX10_positiveOf_126
  refine dA_G (fun _ => ?_)
  exact dA_some h

theorem l5_zX10_positiveOf_125 (w : dS) (kV : dS → Int32 → Option (Int32 × dS)) (hkV : ∀ (y0 : dS) (y1 : Int32), F5 w y0 → dAll (kV y0 y1) (fun o => F5 w o.2)) (q : dS) (h : F5 w q) : dAll (zX10_positiveOf_125 kV q) (fun o => F5 w o.2) := by
  unfold zX10_positiveOf_125
  exact l5_zX10_positiveOf_126 w kV hkV q 0 h

theorem l5_zX10_positiveOf_121 (w : dS) (kV : dS → Int32 → Option (Int32 × dS)) (hkV : ∀ (y0 : dS) (y1 : Int32), F5 w y0 → dAll (kV y0 y1) (fun o => F5 w o.2)) (q : dS) (h : F5 w q) : dAll (zX10_positiveOf_121 kV q) (fun o => F5 w o.2) := by
  unfold zX10_positiveOf_121
  exact l5_zX10_positiveOf_126 w kV hkV q 1 h

theorem l5_zX10_positiveOf (w : dS) (kV : dS → Int32 → Option (Int32 × dS)) (hkV : ∀ (y0 : dS) (y1 : Int32), F5 w y0 → dAll (kV y0 y1) (fun o => F5 w o.2)) (q : dS) (p1 : Int32) (h : F5 w q) : dAll (zX10_positiveOf kV q p1) (fun o => F5 w o.2) := by
  unfold zX10_positiveOf
  refine dA_V dA_tr (fun r1 _ => ?_)
  refine dA_B (l5_zX10_passes0 w q r1 h) (fun r3 q5 hq5 => ?_)
  refine dA_if (fun _ => ?_) (fun _ => ?_)
  · refine dA_B (l5_zX10_sumOf w 10 q5 p1 hq5) (fun r6 q8 hq8 => ?_)
    refine dA_B (l5_zX10_codeAt w q8 (q8.1 0 22) hq8) (fun r9 q11 hq11 => ?_)
    refine dA_L (fun q12 e_1 => ?_)
    have hq12 : F5 w q12 := by rw [e_1]; exact (f5_r (by decide) hq11)
    refine dA_B (l5_zX10_sumOf w 10 q12 p1 hq12) (fun r13 q15 hq15 => ?_)
    refine dA_if (fun _ => ?_) (fun _ => ?_)
    · exact l5_zX10_positiveOf_125 w kV hkV q15 hq15
    · refine dA_if (fun _ => ?_) (fun _ => ?_)
      · refine dA_V dA_tr (fun r16 _ => ?_)
        refine dA_if (fun _ => ?_) (fun _ => ?_)
        · refine dA_if (fun _ => ?_) (fun _ => ?_)
          · exact l5_zX10_positiveOf_125 w kV hkV q15 hq15
          · exact l5_zX10_positiveOf_121 w kV hkV q15 hq15
        · refine dA_V dA_tr (fun r18 _ => ?_)
          refine dA_if (fun _ => ?_) (fun _ => ?_)
          · refine dA_if (fun _ => ?_) (fun _ => ?_)
            · exact l5_zX10_positiveOf_125 w kV hkV q15 hq15
            · exact l5_zX10_positiveOf_121 w kV hkV q15 hq15
          · refine dA_if (fun _ => ?_) (fun _ => ?_)
            · exact l5_zX10_positiveOf_121 w kV hkV q15 hq15
            · exact l5_zX10_positiveOf_125 w kV hkV q15 hq15
      · exact l5_zX10_positiveOf_125 w kV hkV q15 hq15
  · refine dA_B (hkV q5 p1 hq5) (fun r20 q22 hq22 => ?_)
    refine dA_L (fun q23 e_2 => ?_)
    have hq23 : F5 w q23 := by rw [e_2]; exact (f5_r (by decide) hq22)
    refine dA_G (fun _ => ?_)
    exact dA_some hq23

theorem l5_zX10_plainOf_38 (w : dS) (kV : dS → Int32 → Option (Int32 × dS)) (hkV : ∀ (y0 : dS) (y1 : Int32), F5 w y0 → dAll (kV y0 y1) (fun o => F5 w o.2)) (q : dS) (y0 : Int32) (h : F5 w q) : dAll (zX10_plainOf_38 kV q y0) (fun o => F5 w o.2) := by
  unfold zX10_plainOf_38
  refine dA_G (fun _ => ?_)
  exact dA_some h

theorem l5_zX10_plainOf_20 (w : dS) (kV : dS → Int32 → Option (Int32 × dS)) (hkV : ∀ (y0 : dS) (y1 : Int32), F5 w y0 → dAll (kV y0 y1) (fun o => F5 w o.2)) (k2 : dS → Int32 → Int32 → Option (Int32 × dS)) (hk2 : ∀ (y0 : dS) (y1 : Int32) (y2 : Int32), F5 w y0 → dAll (k2 y0 y1 y2) (fun o => F5 w o.2)) (q : dS) (x1 : Int32) (y0 : Int32) (h : F5 w q) : dAll (zX10_plainOf_20 kV k2 q x1 y0) (fun o => F5 w o.2) := by
  unfold zX10_plainOf_20
  exact hk2 q x1 y0 h

theorem l5_zX10_plainOf_2b (w : dS) (kV : dS → Int32 → Option (Int32 × dS)) (hkV : ∀ (y0 : dS) (y1 : Int32), F5 w y0 → dAll (kV y0 y1) (fun o => F5 w o.2)) (k2 : dS → Int32 → Int32 → Option (Int32 × dS)) (hk2 : ∀ (y0 : dS) (y1 : Int32) (y2 : Int32), F5 w y0 → dAll (k2 y0 y1 y2) (fun o => F5 w o.2)) (q : dS) (x1 : Int32) (x2 : Int32) (h : F5 w q) : dAll (zX10_plainOf_2b kV k2 q x1 x2) (fun o => F5 w o.2) := by
  unfold zX10_plainOf_2b
  refine dA_B (l5_zX10_passes0 w q 7 h) (fun r1 q3 hq3 => ?_)
  refine dA_if (fun _ => ?_) (fun _ => ?_)
  · refine dA_B (l5_zX10_positiveOf w kV hkV q3 x1 hq3) (fun r4 q6 hq6 => ?_)
    refine dA_if (fun _ => ?_) (fun _ => ?_)
    · exact l5_zX10_plainOf_38 w kV hkV q6 0 hq6
    · exact l5_zX10_plainOf_38 w kV hkV q6 1 hq6
  · refine dA_if (fun _ => ?_) (fun _ => ?_)
    · exact l5_zX10_plainOf_20 w kV hkV k2 hk2 q3 x1 1 hq3
    · exact l5_zX10_plainOf_20 w kV hkV k2 hk2 q3 x1 0 hq3

theorem l5_zX10_plainOf_2 (w : dS) (kV : dS → Int32 → Option (Int32 × dS)) (hkV : ∀ (y0 : dS) (y1 : Int32), F5 w y0 → dAll (kV y0 y1) (fun o => F5 w o.2)) (n : Nat) (q : dS) (x1 : Int32) (x2 : Int32) (h : F5 w q) : dAll (zX10_plainOf_2 kV n q x1 x2) (fun o => F5 w o.2) := by
  unfold zX10_plainOf_2
  exact dA_fix (fun (a : dS × Int32 × Int32) => F5 w a.1) (fun k hk a ha => l5_zX10_plainOf_2b w kV hkV _ (fun q x1 x2 hq => hk (q, x1, x2) hq) a.1 a.2.1 a.2.2 ha) n _ h

theorem l5_zX10_plainOf (w : dS) (kV : dS → Int32 → Option (Int32 × dS)) (hkV : ∀ (y0 : dS) (y1 : Int32), F5 w y0 → dAll (kV y0 y1) (fun o => F5 w o.2)) (q : dS) (p1 : Int32) (h : F5 w q) : dAll (zX10_plainOf kV q p1) (fun o => F5 w o.2) := by
  unfold zX10_plainOf
  exact l5_zX10_plainOf_2 w kV hkV dF q p1 0 h

theorem l5_zX10_bothOf_46 (w : dS) (kV : dS → Int32 → Option (Int32 × dS)) (hkV : ∀ (y0 : dS) (y1 : Int32), F5 w y0 → dAll (kV y0 y1) (fun o => F5 w o.2)) (k6 : dS → Int32 → Int32 → Option (Int32 × dS)) (hk6 : ∀ (y0 : dS) (y1 : Int32) (y2 : Int32), F5 w y0 → dAll (k6 y0 y1 y2) (fun o => F5 w o.2)) (q : dS) (x1 : Int32) (y0 : Int32) (h : F5 w q) : dAll (zX10_bothOf_46 kV k6 q x1 y0) (fun o => F5 w o.2) := by
  unfold zX10_bothOf_46
  exact hk6 q x1 y0 h

theorem l5_zX10_bothOf_45 (w : dS) (kV : dS → Int32 → Option (Int32 × dS)) (hkV : ∀ (y0 : dS) (y1 : Int32), F5 w y0 → dAll (kV y0 y1) (fun o => F5 w o.2)) (k6 : dS → Int32 → Int32 → Option (Int32 × dS)) (hk6 : ∀ (y0 : dS) (y1 : Int32) (y2 : Int32), F5 w y0 → dAll (k6 y0 y1 y2) (fun o => F5 w o.2)) (q : dS) (x1 : Int32) (h : F5 w q) : dAll (zX10_bothOf_45 kV k6 q x1) (fun o => F5 w o.2) := by
  unfold zX10_bothOf_45
  exact l5_zX10_bothOf_46 w kV hkV k6 hk6 q x1 0 h

theorem l5_zX10_bothOf_29 (w : dS) (kV : dS → Int32 → Option (Int32 × dS)) (hkV : ∀ (y0 : dS) (y1 : Int32), F5 w y0 → dAll (kV y0 y1) (fun o => F5 w o.2)) (k6 : dS → Int32 → Int32 → Option (Int32 × dS)) (hk6 : ∀ (y0 : dS) (y1 : Int32) (y2 : Int32), F5 w y0 → dAll (k6 y0 y1 y2) (fun o => F5 w o.2)) (q : dS) (x1 : Int32) (x2 : Int32) (y0 : Int32) (h : F5 w q) : dAll (zX10_bothOf_29 kV k6 q x1 x2 y0) (fun o => F5 w o.2) := by
  unfold zX10_bothOf_29
  refine dA_B (l5_zX10_plainOf w kV hkV q y0 h) (fun r1 q3 hq3 => ?_)
  refine dA_if (fun _ => ?_) (fun _ => ?_)
  · exact l5_zX10_bothOf_45 w kV hkV k6 hk6 q3 x1 hq3
  · refine dA_if (fun _ => ?_) (fun _ => ?_)
    · exact l5_zX10_bothOf_45 w kV hkV k6 hk6 q3 x1 hq3
    · exact l5_zX10_bothOf_46 w kV hkV k6 hk6 q3 x1 1 hq3

theorem l5_zX10_bothOf_28 (w : dS) (kV : dS → Int32 → Option (Int32 × dS)) (hkV : ∀ (y0 : dS) (y1 : Int32), F5 w y0 → dAll (kV y0 y1) (fun o => F5 w o.2)) (k6 : dS → Int32 → Int32 → Option (Int32 × dS)) (hk6 : ∀ (y0 : dS) (y1 : Int32) (y2 : Int32), F5 w y0 → dAll (k6 y0 y1 y2) (fun o => F5 w o.2)) (q : dS) (x1 : Int32) (x2 : Int32) (h : F5 w q) : dAll (zX10_bothOf_28 kV k6 q x1 x2) (fun o => F5 w o.2) := by
  unfold zX10_bothOf_28
  exact l5_zX10_bothOf_29 w kV hkV k6 hk6 q x1 x2 0 h

theorem l5_zX10_bothOf_6b (w : dS) (kV : dS → Int32 → Option (Int32 × dS)) (hkV : ∀ (y0 : dS) (y1 : Int32), F5 w y0 → dAll (kV y0 y1) (fun o => F5 w o.2)) (k6 : dS → Int32 → Int32 → Option (Int32 × dS)) (hk6 : ∀ (y0 : dS) (y1 : Int32) (y2 : Int32), F5 w y0 → dAll (k6 y0 y1 y2) (fun o => F5 w o.2)) (q : dS) (x1 : Int32) (x2 : Int32) (h : F5 w q) : dAll (zX10_bothOf_6b kV k6 q x1 x2) (fun o => F5 w o.2) := by
  unfold zX10_bothOf_6b
  refine dA_B (l5_zX10_passes0 w q 6 h) (fun r1 q3 hq3 => ?_)
  refine dA_if (fun _ => ?_) (fun _ => ?_)
  · refine dA_G (fun _ => ?_)
    exact dA_some hq3
  · refine dA_if (fun _ => ?_) (fun _ => ?_)
    · exact l5_zX10_bothOf_28 w kV hkV k6 hk6 q3 x1 x2 hq3
    · refine dA_if (fun _ => ?_) (fun _ => ?_)
      · exact l5_zX10_bothOf_28 w kV hkV k6 hk6 q3 x1 x2 hq3
      · exact l5_zX10_bothOf_29 w kV hkV k6 hk6 q3 x1 x2 1 hq3

theorem l5_zX10_bothOf_6 (w : dS) (kV : dS → Int32 → Option (Int32 × dS)) (hkV : ∀ (y0 : dS) (y1 : Int32), F5 w y0 → dAll (kV y0 y1) (fun o => F5 w o.2)) (n : Nat) (q : dS) (x1 : Int32) (x2 : Int32) (h : F5 w q) : dAll (zX10_bothOf_6 kV n q x1 x2) (fun o => F5 w o.2) := by
  unfold zX10_bothOf_6
  exact dA_fix (fun (a : dS × Int32 × Int32) => F5 w a.1) (fun k hk a ha => l5_zX10_bothOf_6b w kV hkV _ (fun q x1 x2 hq => hk (q, x1, x2) hq) a.1 a.2.1 a.2.2 ha) n _ h

theorem l5_zX10_bothOf (w : dS) (kV : dS → Int32 → Option (Int32 × dS)) (hkV : ∀ (y0 : dS) (y1 : Int32), F5 w y0 → dAll (kV y0 y1) (fun o => F5 w o.2)) (q : dS) (p1 : Int32) (h : F5 w q) : dAll (zX10_bothOf kV q p1) (fun o => F5 w o.2) := by
  unfold zX10_bothOf
  refine dA_B (l5_zX10_plainOf w kV hkV q p1 h) (fun r1 q3 hq3 => ?_)
  exact l5_zX10_bothOf_6 w kV hkV dF q3 p1 r1 hq3

theorem l5_zX10_testOf_45 (w : dS) (kV : dS → Int32 → Option (Int32 × dS)) (hkV : ∀ (y0 : dS) (y1 : Int32), F5 w y0 → dAll (kV y0 y1) (fun o => F5 w o.2)) (k6 : dS → Int32 → Int32 → Option (Int32 × dS)) (hk6 : ∀ (y0 : dS) (y1 : Int32) (y2 : Int32), F5 w y0 → dAll (k6 y0 y1 y2) (fun o => F5 w o.2)) (q : dS) (x1 : Int32) (y0 : Int32) (h : F5 w q) : dAll (zX10_testOf_45 kV k6 q x1 y0) (fun o => F5 w o.2) := by
  unfold zX10_testOf_45
  exact hk6 q x1 y0 h

theorem l5_zX10_testOf_40 (w : dS) (kV : dS → Int32 → Option (Int32 × dS)) (hkV : ∀ (y0 : dS) (y1 : Int32), F5 w y0 → dAll (kV y0 y1) (fun o => F5 w o.2)) (k6 : dS → Int32 → Int32 → Option (Int32 × dS)) (hk6 : ∀ (y0 : dS) (y1 : Int32) (y2 : Int32), F5 w y0 → dAll (k6 y0 y1 y2) (fun o => F5 w o.2)) (q : dS) (x1 : Int32) (h : F5 w q) : dAll (zX10_testOf_40 kV k6 q x1) (fun o => F5 w o.2) := by
  unfold zX10_testOf_40
  exact l5_zX10_testOf_45 w kV hkV k6 hk6 q x1 1 h

theorem l5_zX10_testOf_28 (w : dS) (kV : dS → Int32 → Option (Int32 × dS)) (hkV : ∀ (y0 : dS) (y1 : Int32), F5 w y0 → dAll (kV y0 y1) (fun o => F5 w o.2)) (k6 : dS → Int32 → Int32 → Option (Int32 × dS)) (hk6 : ∀ (y0 : dS) (y1 : Int32) (y2 : Int32), F5 w y0 → dAll (k6 y0 y1 y2) (fun o => F5 w o.2)) (q : dS) (x1 : Int32) (x2 : Int32) (y0 : Int32) (h : F5 w q) : dAll (zX10_testOf_28 kV k6 q x1 x2 y0) (fun o => F5 w o.2) := by
  unfold zX10_testOf_28
  refine dA_B (l5_zX10_bothOf w kV hkV q y0 h) (fun r1 q3 hq3 => ?_)
  refine dA_if (fun _ => ?_) (fun _ => ?_)
  · refine dA_if (fun _ => ?_) (fun _ => ?_)
    · exact l5_zX10_testOf_45 w kV hkV k6 hk6 q3 x1 0 hq3
    · exact l5_zX10_testOf_40 w kV hkV k6 hk6 q3 x1 hq3
  · exact l5_zX10_testOf_40 w kV hkV k6 hk6 q3 x1 hq3

theorem l5_zX10_testOf_27 (w : dS) (kV : dS → Int32 → Option (Int32 × dS)) (hkV : ∀ (y0 : dS) (y1 : Int32), F5 w y0 → dAll (kV y0 y1) (fun o => F5 w o.2)) (k6 : dS → Int32 → Int32 → Option (Int32 × dS)) (hk6 : ∀ (y0 : dS) (y1 : Int32) (y2 : Int32), F5 w y0 → dAll (k6 y0 y1 y2) (fun o => F5 w o.2)) (q : dS) (x1 : Int32) (x2 : Int32) (h : F5 w q) : dAll (zX10_testOf_27 kV k6 q x1 x2) (fun o => F5 w o.2) := by
  unfold zX10_testOf_27
  exact l5_zX10_testOf_28 w kV hkV k6 hk6 q x1 x2 0 h

theorem l5_zX10_testOf_6b (w : dS) (kV : dS → Int32 → Option (Int32 × dS)) (hkV : ∀ (y0 : dS) (y1 : Int32), F5 w y0 → dAll (kV y0 y1) (fun o => F5 w o.2)) (k6 : dS → Int32 → Int32 → Option (Int32 × dS)) (hk6 : ∀ (y0 : dS) (y1 : Int32) (y2 : Int32), F5 w y0 → dAll (k6 y0 y1 y2) (fun o => F5 w o.2)) (q : dS) (x1 : Int32) (x2 : Int32) (h : F5 w q) : dAll (zX10_testOf_6b kV k6 q x1 x2) (fun o => F5 w o.2) := by
  unfold zX10_testOf_6b
  refine dA_B (l5_zX10_passes0 w q 5 h) (fun r1 q3 hq3 => ?_)
  refine dA_if (fun _ => ?_) (fun _ => ?_)
  · refine dA_G (fun _ => ?_)
    exact dA_some hq3
  · refine dA_if (fun _ => ?_) (fun _ => ?_)
    · exact l5_zX10_testOf_27 w kV hkV k6 hk6 q3 x1 x2 hq3
    · refine dA_if (fun _ => ?_) (fun _ => ?_)
      · exact l5_zX10_testOf_28 w kV hkV k6 hk6 q3 x1 x2 1 hq3
      · exact l5_zX10_testOf_27 w kV hkV k6 hk6 q3 x1 x2 hq3

theorem l5_zX10_testOf_6 (w : dS) (kV : dS → Int32 → Option (Int32 × dS)) (hkV : ∀ (y0 : dS) (y1 : Int32), F5 w y0 → dAll (kV y0 y1) (fun o => F5 w o.2)) (n : Nat) (q : dS) (x1 : Int32) (x2 : Int32) (h : F5 w q) : dAll (zX10_testOf_6 kV n q x1 x2) (fun o => F5 w o.2) := by
  unfold zX10_testOf_6
  exact dA_fix (fun (a : dS × Int32 × Int32) => F5 w a.1) (fun k hk a ha => l5_zX10_testOf_6b w kV hkV _ (fun q x1 x2 hq => hk (q, x1, x2) hq) a.1 a.2.1 a.2.2 ha) n _ h

theorem l5_zX10_testOf_o (w : dS) (kV : dS → Int32 → Option (Int32 × dS)) (hkV : ∀ (y0 : dS) (y1 : Int32), F5 w y0 → dAll (kV y0 y1) (fun o => F5 w o.2)) (q : dS) (p1 : Int32) (h : F5 w q) : dAll (zX10_testOf_o kV q p1) (fun o => F5 w o.2) := by
  unfold zX10_testOf_o
  refine dA_B (l5_zX10_bothOf w kV hkV q p1 h) (fun r1 q3 hq3 => ?_)
  exact l5_zX10_testOf_6 w kV hkV dF q3 p1 r1 hq3

theorem l5_zX10_testOf (w : dS) (n : Nat) : ∀ (q : dS) (p1 : Int32) (h : F5 w q), dAll (zX10_testOf n q p1) (fun o => F5 w o.2) := by
  induction n with
  | zero => intro q p1 h o e; cases e
  | succ n ih => intro q p1 h; exact l5_zX10_testOf_o w (zX10_testOf n) ih q p1 h

theorem l5_zX10_tells_199 (w : dS) (k60 : dS → Int32 → Int64 → Option (Int32 × dS)) (hk60 : ∀ (y0 : dS) (y1 : Int32) (y2 : Int64), F5 w y0 → dAll (k60 y0 y1 y2) (fun o => F5 w o.2)) (q : dS) (x1 : Int32) (x3 : Int64) (h : F5 w q) : dAll (zX10_tells_199 k60 q x1 x3) (fun o => F5 w o.2) := by
  unfold zX10_tells_199
  refine dA_L (fun q1 e_1 => ?_)
  have hq1 : F5 w q1 := by rw [e_1]; exact (f5_r (by decide) h)
  exact hk60 q1 x1 x3 hq1

theorem l5_zX10_tells_198 (w : dS) (k60 : dS → Int32 → Int64 → Option (Int32 × dS)) (hk60 : ∀ (y0 : dS) (y1 : Int32) (y2 : Int64), F5 w y0 → dAll (k60 y0 y1 y2) (fun o => F5 w o.2)) (q : dS) (x1 : Int32) (y0 : Int64) (h : F5 w q) : dAll (zX10_tells_198 k60 q x1 y0) (fun o => F5 w o.2) := by
  unfold zX10_tells_198
  exact l5_zX10_tells_199 w k60 hk60 q x1 y0 h

theorem l5_zX10_tells_145 (w : dS) (k60 : dS → Int32 → Int64 → Option (Int32 × dS)) (hk60 : ∀ (y0 : dS) (y1 : Int32) (y2 : Int64), F5 w y0 → dAll (k60 y0 y1 y2) (fun o => F5 w o.2)) (q : dS) (x1 : Int32) (x3 : Int64) (x5 : Int32) (x6 : Int64) (x8 : Int32) (y0 : Int32) (h : F5 w q) : dAll (zX10_tells_145 k60 q x1 x3 x5 x6 x8 y0) (fun o => F5 w o.2) := by
  unfold zX10_tells_145
  refine dA_if (fun _ => ?_) (fun _ => ?_)
  · refine dA_if (fun _ => ?_) (fun _ => ?_)
    · exact l5_zX10_tells_199 w k60 hk60 q x1 x3 h
    · refine dA_if (fun _ => ?_) (fun _ => ?_)
      · refine dA_if (fun _ => ?_) (fun _ => ?_)
        · refine dA_if (fun _ => ?_) (fun _ => ?_)
          · refine dA_if (fun _ => ?_) (fun _ => ?_)
            · exact l5_zX10_tells_198 w k60 hk60 q x1 x6 h
            · exact l5_zX10_tells_198 w k60 hk60 q x1 99 h
          · exact l5_zX10_tells_198 w k60 hk60 q x1 0 h
        · exact l5_zX10_tells_199 w k60 hk60 q x1 x3 h
      · exact l5_zX10_tells_199 w k60 hk60 q x1 x3 h
  · exact l5_zX10_tells_199 w k60 hk60 q x1 x3 h

theorem l5_zX10_tells_140 (w : dS) (k60 : dS → Int32 → Int64 → Option (Int32 × dS)) (hk60 : ∀ (y0 : dS) (y1 : Int32) (y2 : Int64), F5 w y0 → dAll (k60 y0 y1 y2) (fun o => F5 w o.2)) (q : dS) (x1 : Int32) (x3 : Int64) (x5 : Int32) (x6 : Int64) (x8 : Int32) (h : F5 w q) : dAll (zX10_tells_140 k60 q x1 x3 x5 x6 x8) (fun o => F5 w o.2) := by
  unfold zX10_tells_140
  exact l5_zX10_tells_145 w k60 hk60 q x1 x3 x5 x6 x8 1 h

theorem l5_zX10_tells_111 (w : dS) (k60 : dS → Int32 → Int64 → Option (Int32 × dS)) (hk60 : ∀ (y0 : dS) (y1 : Int32) (y2 : Int64), F5 w y0 → dAll (k60 y0 y1 y2) (fun o => F5 w o.2)) (q : dS) (x1 : Int32) (x3 : Int64) (x5 : Int32) (y0 : Int64) (h : F5 w q) : dAll (zX10_tells_111 k60 q x1 x3 x5 y0) (fun o => F5 w o.2) := by
  unfold zX10_tells_111
  refine dA_L (fun q1 e_1 => ?_)
  have hq1 : F5 w q1 := by rw [e_1]; exact (f5_r (by decide) h)
  refine dA_B (l5_zX10_passes0 w q1 4 hq1) (fun r2 q4 hq4 => ?_)
  refine dA_if (fun _ => ?_) (fun _ => ?_)
  · exact l5_zX10_tells_140 w k60 hk60 q4 x1 x3 x5 y0 (q.1 0 24) hq4
  · refine dA_B (l5_zX10_testOf w 10 q4 1 hq4) (fun r5 q7 hq7 => ?_)
    refine dA_if (fun _ => ?_) (fun _ => ?_)
    · exact l5_zX10_tells_145 w k60 hk60 q7 x1 x3 x5 y0 (q.1 0 24) 0 hq7
    · exact l5_zX10_tells_140 w k60 hk60 q7 x1 x3 x5 y0 (q.1 0 24) hq7

theorem l5_zX10_tells_60b (w : dS) (k60 : dS → Int32 → Int64 → Option (Int32 × dS)) (hk60 : ∀ (y0 : dS) (y1 : Int32) (y2 : Int64), F5 w y0 → dAll (k60 y0 y1 y2) (fun o => F5 w o.2)) (q : dS) (x1 : Int32) (x3 : Int64) (h : F5 w q) : dAll (zX10_tells_60b k60 q x1 x3) (fun o => F5 w o.2) := by
  unfold zX10_tells_60b
  refine dA_if (fun _ => ?_) (fun _ => ?_)
  · exact dA_some h
  · refine dA_B (l5_zX10_codeAt w q (q.1 0 22) h) (fun r1 q3 hq3 => ?_)
    refine dA_L (fun q4 e_1 => ?_)
    have hq4 : F5 w q4 := by rw [e_1]; exact (f5_r (by decide) hq3)
    refine dA_L (fun q5 e_2 => ?_)
    have hq5 : F5 w q5 := by rw [e_2]; exact (f5_r (by decide) hq4)
    refine dA_if (fun _ => ?_) (fun _ => ?_)
    · refine dA_B (l5_zX10_sumOf w 10 q5 1 hq5) (fun r6 q8 hq8 => ?_)
      exact l5_zX10_tells_111 w k60 hk60 q8 x1 x3 r1 r6 hq8
    · exact l5_zX10_tells_111 w k60 hk60 q5 x1 x3 r1 1 hq5

theorem l5_zX10_tells_60 (w : dS) (n : Nat) (q : dS) (x1 : Int32) (x3 : Int64) (h : F5 w q) : dAll (zX10_tells_60 n q x1 x3) (fun o => F5 w o.2) := by
  unfold zX10_tells_60
  exact dA_fix (fun (a : dS × Int32 × Int64) => F5 w a.1) (fun k hk a ha => l5_zX10_tells_60b w  _ (fun q x1 x3 hq => hk (q, x1, x3) hq) a.1 a.2.1 a.2.2 ha) n _ h

theorem l5_zX10_tells (w : dS) (q : dS) (p1 : Int32) (p2 : Int32) (h : F5 w q) : dAll (zX10_tells q p1 p2) (fun o => F5 w o.2) := by
  unfold zX10_tells
  refine dA_if (fun _ => ?_) (fun _ => ?_)
  · exact dA_some h
  · refine dA_L (fun q1 e_1 => ?_)
    have hq1 : F5 w q1 := by rw [e_1]; exact (f5_r (by decide) h)
    refine dA_L (fun q2 e_2 => ?_)
    have hq2 : F5 w q2 := by rw [e_2]; exact (f5_r (by decide) hq1)
    refine dA_G (fun _ => ?_)
    refine dA_L (fun v4 e_3 => ?_)
    refine dA_L (fun q5 e_4 => ?_)
    have hq5 : F5 w q5 := by rw [e_4]; exact (f5_r (by decide) hq2)
    exact l5_zX10_tells_60 w dF q5 p1 (Int32.toInt64 p2) hq5

theorem l5_zX10_isNow_15 (w : dS) (q : dS) (y0 : Int32) (h : F5 w q) : dAll (zX10_isNow_15 q y0) (fun o => F5 w o.2) := by
  unfold zX10_isNow_15
  refine dA_G (fun _ => ?_)
  exact dA_some h

theorem l5_zX10_isNow (w : dS) (q : dS) (p1 : Int32) (h : F5 w q) : dAll (zX10_isNow q p1) (fun o => F5 w o.2) := by
  unfold zX10_isNow
  refine dA_B (l5_zX10_tells w q p1 0 h) (fun r1 q3 hq3 => ?_)
  refine dA_if (fun _ => ?_) (fun _ => ?_)
  · exact l5_zX10_isNow_15 w q3 1 hq3
  · exact l5_zX10_isNow_15 w q3 0 hq3

theorem l5_zX10_tipsAt (w : dS) (q : dS) (p1 : Int32) (h : F5 w q) : dAll (zX10_tipsAt q p1) (fun o => F5 w o.2) := by
  unfold zX10_tipsAt
  refine dA_V (l5_zX10_setsFloor w q p1 h) (fun q3 hq3 => ?_)
  refine dA_B (l5_zX10_isNow w q3 3 hq3) (fun r4 q6 hq6 => ?_)
  refine dA_G (fun _ => ?_)
  exact dA_some hq6

theorem l5_zX10_rankBelow_20 (w : dS) (q : dS) (y0 : Int32) (h : F5 w q) : dAll (zX10_rankBelow_20 q y0) (fun o => F5 w o.2) := by
  unfold zX10_rankBelow_20
  exact dA_some h

theorem l5_zX10_rankBelow (w : dS) (q : dS) (p1 : Int32) (h : F5 w q) : dAll (zX10_rankBelow q p1) (fun o => F5 w o.2) := by
  unfold zX10_rankBelow
  refine dA_B (l5_zX10_size w q h) (fun r1 q3 hq3 => ?_)
  refine dA_if (fun _ => ?_) (fun _ => ?_)
  · exact l5_zX10_rankBelow_20 w q3 (-1) hq3
  · refine dA_G (fun _ => ?_)
    refine dA_L (fun v5 e_1 => ?_)
    exact l5_zX10_rankBelow_20 w q3 v5 hq3

theorem l5_zX10_setsTurn (w : dS) (q : dS) (p1 : Int32) (p2 : Int32) (p3 : Int32) (p4 : Int32) (h : F5 w q) : dAll (zX10_setsTurn q p1 p2 p3 p4) (fun o => F5 w o) := by
  unfold zX10_setsTurn
  refine dA_L (fun q1 e_1 => ?_)
  have hq1 : F5 w q1 := by rw [e_1]; exact (f5_r (by decide) h)
  refine dA_L (fun q2 e_2 => ?_)
  have hq2 : F5 w q2 := by rw [e_2]; exact (f5_r (by decide) hq1)
  refine dA_L (fun q3 e_3 => ?_)
  have hq3 : F5 w q3 := by rw [e_3]; exact (f5_r (by decide) hq2)
  refine dA_V (l5_zX10_setsAsked w q3 (-1) (-1) p4 hq3) (fun q6 hq6 => ?_)
  exact dA_some hq6

theorem l5_zX10_paysNow (w : dS) (q : dS) (h : F5 w q) : dAll (zX10_paysNow q) (fun o => F5 w o.2) := by
  unfold zX10_paysNow
  refine dA_B (l5_zX10_tells w q 1 (q.1 12 0) h) (fun r1 q3 hq3 => ?_)
  exact dA_some hq3

theorem l5_zX10_canTurn_46 (w : dS) (q : dS) (y0 : Int32) (h : F5 w q) : dAll (zX10_canTurn_46 q y0) (fun o => F5 w o.2) := by
  unfold zX10_canTurn_46
  refine dA_G (fun _ => ?_)
  exact dA_some h

theorem l5_zX10_canTurn (w : dS) (q : dS) (p1 : Int32) (h : F5 w q) : dAll (zX10_canTurn q p1) (fun o => F5 w o.2) := by
  unfold zX10_canTurn
  refine dA_B (l5_zX10_size w q h) (fun r1 q3 hq3 => ?_)
  refine dA_if (fun _ => ?_) (fun _ => ?_)
  · refine dA_B (l5_zX10_rankBelow w q3 p1 hq3) (fun r4 q6 hq6 => ?_)
    refine dA_V (l5_zX10_setsTurn w q6 p1 (q3.1 2 0) r4 (q6.1 2 6) hq6) (fun q9 hq9 => ?_)
    refine dA_B (l5_zX10_isNow w q9 2 hq9) (fun r10 q12 hq12 => ?_)
    refine dA_if (fun _ => ?_) (fun _ => ?_)
    · exact l5_zX10_canTurn_46 w q12 1 hq12
    · exact l5_zX10_canTurn_46 w q12 0 hq12
  · exact dA_some hq3

theorem l5_zX10_exchanges (w : dS) (q : dS) (p1 : Int32) (p2 : Int32) (h : F5 w q) : dAll (zX10_exchanges q p1 p2) (fun o => F5 w o) := by
  unfold zX10_exchanges
  refine dA_G (fun _ => ?_)
  refine dA_L (fun v2 e_1 => ?_)
  refine dA_G (fun _ => ?_)
  refine dA_L (fun v4 e_2 => ?_)
  refine dA_G (fun _ => ?_)
  refine dA_L (fun v6 e_3 => ?_)
  refine dA_G (fun _ => ?_)
  refine dA_L (fun q8 e_4 => ?_)
  have hq8 : F5 w q8 := by rw [e_4]; exact (f5_r (by decide) h)
  refine dA_G (fun _ => ?_)
  refine dA_L (fun v10 e_5 => ?_)
  refine dA_G (fun _ => ?_)
  refine dA_L (fun q12 e_6 => ?_)
  have hq12 : F5 w q12 := by rw [e_6]; exact (f5_r (by decide) hq8)
  refine dA_G (fun _ => ?_)
  refine dA_L (fun q14 e_7 => ?_)
  have hq14 : F5 w q14 := by rw [e_7]; exact (f5_r (by decide) hq12)
  refine dA_G (fun _ => ?_)
  refine dA_L (fun q16 e_8 => ?_)
  have hq16 : F5 w q16 := by rw [e_8]; exact (f5_r (by decide) hq14)
  exact dA_some hq16

theorem l5_zX10_turns_57b (w : dS) (k57 : dS → Int32 → Int32 → Int32 → Option (Int32 × dS)) (hk57 : ∀ (y0 : dS) (y1 : Int32) (y2 : Int32) (y3 : Int32), F5 w y0 → dAll (k57 y0 y1 y2 y3) (fun o => F5 w o.2)) (q : dS) (x1 : Int32) (x2 : Int32) (x3 : Int32) (h : F5 w q) : dAll (zX10_turns_57b k57 q x1 x2 x3) (fun o => F5 w o.2) := by
  unfold zX10_turns_57b
  refine dA_if (fun _ => ?_) (fun _ => ?_)
  · refine dA_V dA_tr (fun r1 _ => ?_)
    refine dA_L (fun q3 e_1 => ?_)
    have hq3 : F5 w q3 := by rw [e_1]; exact (f5_r (by decide) h)
    exact dA_some hq3
  · refine dA_G (fun _ => ?_)
    refine dA_L (fun v5 e_2 => ?_)
    refine dA_G (fun _ => ?_)
    refine dA_L (fun q7 e_3 => ?_)
    have hq7 : F5 w q7 := by rw [e_3]; exact (f5_r (by decide) h)
    exact hk57 q7 x1 x2 (x3 + 1) hq7

theorem l5_zX10_turns_57 (w : dS) (n : Nat) (q : dS) (x1 : Int32) (x2 : Int32) (x3 : Int32) (h : F5 w q) : dAll (zX10_turns_57 n q x1 x2 x3) (fun o => F5 w o.2) := by
  unfold zX10_turns_57
  exact dA_fix (fun (a : dS × Int32 × Int32 × Int32) => F5 w a.1) (fun k hk a ha => l5_zX10_turns_57b w  _ (fun q x1 x2 x3 hq => hk (q, x1, x2, x3) hq) a.1 a.2.1 a.2.2.1 a.2.2.2 ha) n _ h

theorem l5_zX10_turns_30b (w : dS) (k30 : dS → Int32 → Int32 → Int32 → Option (Int32 × dS)) (hk30 : ∀ (y0 : dS) (y1 : Int32) (y2 : Int32) (y3 : Int32), F5 w y0 → dAll (k30 y0 y1 y2 y3) (fun o => F5 w o.2)) (q : dS) (x1 : Int32) (x2 : Int32) (x3 : Int32) (h : F5 w q) : dAll (zX10_turns_30b k30 q x1 x2 x3) (fun o => F5 w o.2) := by
  unfold zX10_turns_30b
  refine dA_if (fun _ => ?_) (fun _ => ?_)
  · exact l5_zX10_turns_57 w dF q x1 x2 0 h
  · refine dA_V (l5_zX10_exchanges w q x3 ((x1 - 1 : Int32) - x3) h) (fun q3 hq3 => ?_)
    exact hk30 q3 x1 x2 (x3 + 1) hq3

theorem l5_zX10_turns_30 (w : dS) (n : Nat) (q : dS) (x1 : Int32) (x2 : Int32) (x3 : Int32) (h : F5 w q) : dAll (zX10_turns_30 n q x1 x2 x3) (fun o => F5 w o.2) := by
  unfold zX10_turns_30
  exact dA_fix (fun (a : dS × Int32 × Int32 × Int32) => F5 w a.1) (fun k hk a ha => l5_zX10_turns_30b w  _ (fun q x1 x2 x3 hq => hk (q, x1, x2, x3) hq) a.1 a.2.1 a.2.2.1 a.2.2.2 ha) n _ h

theorem l5_zX10_turns (w : dS) (q : dS) (p1 : Int32) (h : F5 w q) : dAll (zX10_turns q p1) (fun o => F5 w o.2) := by
  unfold zX10_turns
  refine dA_B (l5_zX10_rankBelow w q p1 h) (fun r1 q3 hq3 => ?_)
  refine dA_V (l5_zX10_setsTurn w q3 p1 (q.1 2 0) r1 (q3.1 2 6) hq3) (fun q6 hq6 => ?_)
  refine dA_B (l5_zX10_paysNow w q6 hq6) (fun r7 q9 hq9 => ?_)
  exact l5_zX10_turns_30 w dF q9 p1 r7 0 hq9

theorem l5_zX10_yearPasses_95 (w : dS) (k31 : dS → Int32 → Int32 → Option (Int32 × dS)) (hk31 : ∀ (y0 : dS) (y1 : Int32) (y2 : Int32), F5 w y0 → dAll (k31 y0 y1 y2) (fun o => F5 w o.2)) (q : dS) (x2 : Int32) (y0 : Int32) (y1 : Int32) (h : F5 w q) : dAll (zX10_yearPasses_95 k31 q x2 y0 y1) (fun o => F5 w o.2) := by
  unfold zX10_yearPasses_95
  exact hk31 q (y1 + y0) (x2 + 1) h

theorem l5_zX10_yearPasses_79 (w : dS) (k31 : dS → Int32 → Int32 → Option (Int32 × dS)) (hk31 : ∀ (y0 : dS) (y1 : Int32) (y2 : Int32), F5 w y0 → dAll (k31 y0 y1 y2) (fun o => F5 w o.2)) (q : dS) (x1 : Int32) (x2 : Int32) (y0 : Int32) (y1 : Int32) (h : F5 w q) : dAll (zX10_yearPasses_79 k31 q x1 x2 y0 y1) (fun o => F5 w o.2) := by
  unfold zX10_yearPasses_79
  refine dA_G (fun _ => ?_)
  refine dA_L (fun q2 e_1 => ?_)
  have hq2 : F5 w q2 := by rw [e_1]; exact (f5_r (by decide) h)
  refine dA_G (fun _ => ?_)
  refine dA_L (fun v4 e_2 => ?_)
  refine dA_if (fun _ => ?_) (fun _ => ?_)
  · exact l5_zX10_yearPasses_95 w k31 hk31 q2 x2 0 x1 hq2
  · exact l5_zX10_yearPasses_95 w k31 hk31 q2 x2 1 x1 hq2

theorem l5_zX10_yearPasses_31b (w : dS) (k31 : dS → Int32 → Int32 → Option (Int32 × dS)) (hk31 : ∀ (y0 : dS) (y1 : Int32) (y2 : Int32), F5 w y0 → dAll (k31 y0 y1 y2) (fun o => F5 w o.2)) (q : dS) (x1 : Int32) (x2 : Int32) (h : F5 w q) : dAll (zX10_yearPasses_31b k31 q x1 x2) (fun o => F5 w o.2) := by
  unfold zX10_yearPasses_31b
  refine dA_B (l5_zX10_size w q h) (fun r1 q3 hq3 => ?_)
  refine dA_if (fun _ => ?_) (fun _ => ?_)
  · refine dA_L (fun q4 e_1 => ?_)
    have hq4 : F5 w q4 := by rw [e_1]; exact (f5_r (by decide) hq3)
    exact dA_some hq4
  · refine dA_G (fun _ => ?_)
    refine dA_L (fun v6 e_2 => ?_)
    refine dA_if (fun _ => ?_) (fun _ => ?_)
    · refine dA_G (fun _ => ?_)
      refine dA_L (fun v8 e_3 => ?_)
      exact l5_zX10_yearPasses_79 w k31 hk31 q3 x1 x2 v8 (6 + x2 : Int32) hq3
    · refine dA_G (fun _ => ?_)
      refine dA_L (fun v10 e_4 => ?_)
      exact l5_zX10_yearPasses_79 w k31 hk31 q3 x1 x2 (1 - v10 : Int32) (6 + x2 : Int32) hq3

theorem l5_zX10_yearPasses_31 (w : dS) (n : Nat) (q : dS) (x1 : Int32) (x2 : Int32) (h : F5 w q) : dAll (zX10_yearPasses_31 n q x1 x2) (fun o => F5 w o.2) := by
  unfold zX10_yearPasses_31
  exact dA_fix (fun (a : dS × Int32 × Int32) => F5 w a.1) (fun k hk a ha => l5_zX10_yearPasses_31b w  _ (fun q x1 x2 hq => hk (q, x1, x2) hq) a.1 a.2.1 a.2.2 ha) n _ h

theorem l5_zX10_yearPasses_4b (w : dS) (k4 : dS → Int32 → Int32 → Option (Int32 × dS)) (hk4 : ∀ (y0 : dS) (y1 : Int32) (y2 : Int32), F5 w y0 → dAll (k4 y0 y1 y2) (fun o => F5 w o.2)) (q : dS) (x1 : Int32) (x2 : Int32) (h : F5 w q) : dAll (zX10_yearPasses_4b k4 q x1 x2) (fun o => F5 w o.2) := by
  unfold zX10_yearPasses_4b
  refine dA_B (l5_zX10_size w q h) (fun r1 q3 hq3 => ?_)
  refine dA_if (fun _ => ?_) (fun _ => ?_)
  · exact l5_zX10_yearPasses_31 w dF q3 x1 0 hq3
  · refine dA_B (l5_zX10_tipsAt w q3 x2 hq3) (fun r4 q6 hq6 => ?_)
    refine dA_G (fun _ => ?_)
    refine dA_L (fun q8 e_1 => ?_)
    have hq8 : F5 w q8 := by rw [e_1]; exact (f5_r (by decide) hq6)
    exact hk4 q8 x1 (x2 + 1) hq8

theorem l5_zX10_yearPasses_4 (w : dS) (n : Nat) (q : dS) (x1 : Int32) (x2 : Int32) (h : F5 w q) : dAll (zX10_yearPasses_4 n q x1 x2) (fun o => F5 w o.2) := by
  unfold zX10_yearPasses_4
  exact dA_fix (fun (a : dS × Int32 × Int32) => F5 w a.1) (fun k hk a ha => l5_zX10_yearPasses_4b w  _ (fun q x1 x2 hq => hk (q, x1, x2) hq) a.1 a.2.1 a.2.2 ha) n _ h

theorem l5_zX10_yearPasses (w : dS) (q : dS) (h : F5 w q) : dAll (zX10_yearPasses q) (fun o => F5 w o.2) := by
  unfold zX10_yearPasses
  exact l5_zX10_yearPasses_4 w dF q 0 0 h

theorem l5_zX10_keeps_54b (w : dS) (k54 : dS → Int32 → Int32 → Int32 → Option (dS)) (hk54 : ∀ (y0 : dS) (y1 : Int32) (y2 : Int32) (y3 : Int32), F5 w y0 → dAll (k54 y0 y1 y2 y3) (fun o => F5 w o)) (q : dS) (x1 : Int32) (x2 : Int32) (x3 : Int32) (h : F5 w q) : dAll (zX10_keeps_54b k54 q x1 x2 x3) (fun o => F5 w o) := by
  unfold zX10_keeps_54b
  refine dA_if (fun _ => ?_) (fun _ => ?_)
  · refine dA_G (fun _ => ?_)
    refine dA_L (fun q2 e_1 => ?_)
    have hq2 : F5 w q2 := by rw [e_1]; exact (f5_r (by decide) h)
    refine dA_L (fun q3 e_2 => ?_)
    have hq3 : F5 w q3 := by rw [e_2]; exact (f5_r (by decide) hq2)
    exact dA_some hq3
  · refine dA_G (fun _ => ?_)
    refine dA_L (fun v5 e_3 => ?_)
    refine dA_G (fun _ => ?_)
    refine dA_L (fun q7 e_4 => ?_)
    have hq7 : F5 w q7 := by rw [e_4]; exact (f5_r (by decide) h)
    exact hk54 q7 x1 x2 (x3 + 1) hq7

theorem l5_zX10_keeps_54 (w : dS) (n : Nat) (q : dS) (x1 : Int32) (x2 : Int32) (x3 : Int32) (h : F5 w q) : dAll (zX10_keeps_54 n q x1 x2 x3) (fun o => F5 w o) := by
  unfold zX10_keeps_54
  exact dA_fix (fun (a : dS × Int32 × Int32 × Int32) => F5 w a.1) (fun k hk a ha => l5_zX10_keeps_54b w  _ (fun q x1 x2 x3 hq => hk (q, x1, x2, x3) hq) a.1 a.2.1 a.2.2.1 a.2.2.2 ha) n _ h

theorem l5_zX10_keeps_52 (w : dS) (q : dS) (x1 : Int32) (x2 : Int32) (h : F5 w q) : dAll (zX10_keeps_52 q x1 x2) (fun o => F5 w o) := by
  unfold zX10_keeps_52
  exact l5_zX10_keeps_54 w dF q x1 x2 0 h

theorem l5_zX10_keeps_14b (w : dS) (k14 : dS → Int32 → Int32 → Int32 → Option (dS)) (hk14 : ∀ (y0 : dS) (y1 : Int32) (y2 : Int32) (y3 : Int32), F5 w y0 → dAll (k14 y0 y1 y2 y3) (fun o => F5 w o)) (q : dS) (x1 : Int32) (x2 : Int32) (x3 : Int32) (h : F5 w q) : dAll (zX10_keeps_14b k14 q x1 x2 x3) (fun o => F5 w o) := by
  unfold zX10_keeps_14b
  refine dA_if (fun _ => ?_) (fun _ => ?_)
  · refine dA_L (fun q1 e_1 => ?_)
    have hq1 : F5 w q1 := by rw [e_1]; exact (f5_r (by decide) h)
    exact l5_zX10_keeps_52 w q1 x1 x2 hq1
  · refine dA_G (fun _ => ?_)
    refine dA_L (fun v3 e_2 => ?_)
    refine dA_G (fun _ => ?_)
    refine dA_L (fun q5 e_3 => ?_)
    have hq5 : F5 w q5 := by rw [e_3]; exact (f5_r (by decide) h)
    exact hk14 q5 x1 x2 (x3 + 1) hq5

theorem l5_zX10_keeps_14 (w : dS) (n : Nat) (q : dS) (x1 : Int32) (x2 : Int32) (x3 : Int32) (h : F5 w q) : dAll (zX10_keeps_14 n q x1 x2 x3) (fun o => F5 w o) := by
  unfold zX10_keeps_14
  exact dA_fix (fun (a : dS × Int32 × Int32 × Int32) => F5 w a.1) (fun k hk a ha => l5_zX10_keeps_14b w  _ (fun q x1 x2 x3 hq => hk (q, x1, x2, x3) hq) a.1 a.2.1 a.2.2.1 a.2.2.2 ha) n _ h

theorem l5_zX10_keeps (w : dS) (q : dS) (p1 : Int32) (h : F5 w q) : dAll (zX10_keeps q p1) (fun o => F5 w o) := by
  unfold zX10_keeps
  refine dA_if (fun _ => ?_) (fun _ => ?_)
  · exact l5_zX10_keeps_14 w dF q p1 15 0 h
  · exact l5_zX10_keeps_52 w q p1 15 h

theorem l5_zX10_turnsKept (w : dS) (q : dS) (p1 : Int32) (h : F5 w q) : dAll (zX10_turnsKept q p1) (fun o => F5 w o.2) := by
  unfold zX10_turnsKept
  refine dA_V dA_tr (fun r1 _ => ?_)
  refine dA_if (fun _ => ?_) (fun _ => ?_)
  · exact dA_some h
  · refine dA_B (l5_zX10_canTurn w q p1 h) (fun r3 q5 hq5 => ?_)
    refine dA_if (fun _ => ?_) (fun _ => ?_)
    · exact dA_some hq5
    · refine dA_V (l5_zX10_keeps w q5 0 hq5) (fun q8 hq8 => ?_)
      refine dA_B (l5_zX10_turns w q8 p1 hq8) (fun r9 q11 hq11 => ?_)
      exact dA_some hq11

theorem l5_zX10_rightsKept (w : dS) (q : dS) (p1 : Int32) (h : F5 w q) : dAll (zX10_rightsKept q p1) (fun o => F5 w o.2) := by
  unfold zX10_rightsKept
  refine dA_V dA_tr (fun r1 _ => ?_)
  refine dA_if (fun _ => ?_) (fun _ => ?_)
  · exact dA_some h
  · refine dA_B (l5_zX10_isPlace w q p1 h) (fun r3 q5 hq5 => ?_)
    refine dA_if (fun _ => ?_) (fun _ => ?_)
    · exact dA_some hq5
    · refine dA_V (l5_zX10_keeps w q5 1 hq5) (fun q8 hq8 => ?_)
      refine dA_G (fun _ => ?_)
      refine dA_L (fun v10 e_1 => ?_)
      refine dA_G (fun _ => ?_)
      refine dA_L (fun q12 e_2 => ?_)
      have hq12 : F5 w q12 := by rw [e_2]; exact (f5_r (by decide) hq8)
      refine dA_G (fun _ => ?_)
      refine dA_L (fun v14 e_3 => ?_)
      exact dA_some hq12

theorem l5_zX10_swapsKept (w : dS) (q : dS) (p1 : Int32) (h : F5 w q) : dAll (zX10_swapsKept q p1) (fun o => F5 w o.2) := by
  unfold zX10_swapsKept
  refine dA_V dA_tr (fun r1 _ => ?_)
  refine dA_if (fun _ => ?_) (fun _ => ?_)
  · exact dA_some h
  · refine dA_B (l5_zX10_isPlace w q (p1 + 1 : Int32) h) (fun r3 q5 hq5 => ?_)
    refine dA_if (fun _ => ?_) (fun _ => ?_)
    · exact dA_some hq5
    · refine dA_V (l5_zX10_keeps w q5 2 hq5) (fun q8 hq8 => ?_)
      refine dA_V (l5_zX10_exchanges w q8 p1 (p1 + 1 : Int32) hq8) (fun q11 hq11 => ?_)
      refine dA_G (fun _ => ?_)
      refine dA_L (fun v13 e_1 => ?_)
      exact dA_some hq11

theorem l5_zX10_passesKept (w : dS) (q : dS) (h : F5 w q) : dAll (zX10_passesKept q) (fun o => F5 w o.2) := by
  unfold zX10_passesKept
  refine dA_if (fun _ => ?_) (fun _ => ?_)
  · exact dA_some h
  · refine dA_V (l5_zX10_keeps w q 3 h) (fun q3 hq3 => ?_)
    refine dA_B (l5_zX10_yearPasses w q3 hq3) (fun r4 q6 hq6 => ?_)
    exact dA_some hq6

theorem l5_zX10_goesAlong_174 (w : dS) (q : dS) (y0 : Int32) (h : F5 w q) : dAll (zX10_goesAlong_174 q y0) (fun o => F5 w o) := by
  unfold zX10_goesAlong_174
  refine dA_G (fun _ => ?_)
  refine dA_L (fun q2 e_1 => ?_)
  have hq2 : F5 w q2 := by rw [e_1]; exact (f5_r (by decide) h)
  refine dA_L (fun q3 e_2 => ?_)
  have hq3 : F5 w q3 := by rw [e_2]; exact (f5_r (by decide) hq2)
  exact dA_some hq3

theorem l5_zX10_goesAlong_173 (w : dS) (q : dS) (h : F5 w q) : dAll (zX10_goesAlong_173 q) (fun o => F5 w o) := by
  unfold zX10_goesAlong_173
  exact l5_zX10_goesAlong_174 w q 0 h

theorem l5_zX10_goesAlong_151 (w : dS) (q : dS) (y0 : Int32) (h : F5 w q) : dAll (zX10_goesAlong_151 q y0) (fun o => F5 w o) := by
  unfold zX10_goesAlong_151
  refine dA_G (fun _ => ?_)
  refine dA_L (fun q2 e_1 => ?_)
  have hq2 : F5 w q2 := by rw [e_1]; exact (f5_r (by decide) h)
  refine dA_if (fun _ => ?_) (fun _ => ?_)
  · exact l5_zX10_goesAlong_173 w q2 hq2
  · refine dA_if (fun _ => ?_) (fun _ => ?_)
    · exact l5_zX10_goesAlong_174 w q2 1 hq2
    · exact l5_zX10_goesAlong_173 w q2 hq2

theorem l5_zX10_goesAlong_146 (w : dS) (q : dS) (h : F5 w q) : dAll (zX10_goesAlong_146 q) (fun o => F5 w o) := by
  unfold zX10_goesAlong_146
  exact l5_zX10_goesAlong_151 w q 1 h

theorem l5_zX10_goesAlong_124 (w : dS) (q : dS) (x2 : Int32) (h : F5 w q) : dAll (zX10_goesAlong_124 q x2) (fun o => F5 w o) := by
  unfold zX10_goesAlong_124
  refine dA_L (fun q1 e_1 => ?_)
  have hq1 : F5 w q1 := by rw [e_1]; exact (f5_r (by decide) h)
  refine dA_B (l5_zX10_passes0 w q1 4 hq1) (fun r2 q4 hq4 => ?_)
  refine dA_if (fun _ => ?_) (fun _ => ?_)
  · exact l5_zX10_goesAlong_146 w q4 hq4
  · refine dA_B (l5_zX10_testOf w 10 q4 x2 hq4) (fun r5 q7 hq7 => ?_)
    refine dA_if (fun _ => ?_) (fun _ => ?_)
    · exact l5_zX10_goesAlong_151 w q7 0 hq7
    · exact l5_zX10_goesAlong_146 w q7 hq7

theorem l5_zX10_goesAlong_80 (w : dS) (q : dS) (x2 : Int32) (y0 : Int32) (h : F5 w q) : dAll (zX10_goesAlong_80 q x2 y0) (fun o => F5 w o) := by
  unfold zX10_goesAlong_80
  refine dA_G (fun _ => ?_)
  refine dA_L (fun q2 e_1 => ?_)
  have hq2 : F5 w q2 := by rw [e_1]; exact (f5_r (by decide) h)
  refine dA_L (fun q3 e_2 => ?_)
  have hq3 : F5 w q3 := by rw [e_2]; exact (f5_r (by decide) hq2)
  refine dA_B (l5_zX10_passes0 w q3 26 hq3) (fun r4 q6 hq6 => ?_)
  refine dA_if (fun _ => ?_) (fun _ => ?_)
  · exact l5_zX10_goesAlong_124 w q6 x2 hq6
  · refine dA_G (fun _ => ?_)
    refine dA_L (fun v8 e_3 => ?_)
    refine dA_L (fun q9 e_4 => ?_)
    have hq9 : F5 w q9 := by rw [e_4]; exact (f5_r (by decide) hq6)
    refine dA_L (fun q10 e_5 => ?_)
    have hq10 : F5 w q10 := by rw [e_5]; exact (f5_r (by decide) hq9)
    exact l5_zX10_goesAlong_124 w q10 x2 hq10

theorem l5_zX10_goesAlong_64 (w : dS) (q : dS) (x2 : Int32) (y0 : Int64) (h : F5 w q) : dAll (zX10_goesAlong_64 q x2 y0) (fun o => F5 w o) := by
  unfold zX10_goesAlong_64
  refine dA_L (fun q1 e_1 => ?_)
  have hq1 : F5 w q1 := by rw [e_1]; exact h
  refine dA_if (fun _ => ?_) (fun _ => ?_)
  · exact l5_zX10_goesAlong_80 w q1 x2 1 hq1
  · exact l5_zX10_goesAlong_80 w q1 x2 0 hq1

theorem l5_zX10_goesAlong (w : dS) (q : dS) (p1 : Int32) (p2 : Int32) (h : F5 w q) : dAll (zX10_goesAlong q p1 p2) (fun o => F5 w o) := by
  unfold zX10_goesAlong
  refine dA_L (fun q1 e_1 => ?_)
  have hq1 : F5 w q1 := by rw [e_1]; exact (f5_r (by decide) h)
  refine dA_L (fun q2 e_2 => ?_)
  have hq2 : F5 w q2 := by rw [e_2]; exact (f5_r (by decide) hq1)
  refine dA_L (fun q3 e_3 => ?_)
  have hq3 : F5 w q3 := by rw [e_3]; exact (f5_r (by decide) hq2)
  refine dA_B (l5_zX10_codeAt w q3 (q3.1 0 22) hq3) (fun r4 q6 hq6 => ?_)
  refine dA_L (fun q7 e_4 => ?_)
  have hq7 : F5 w q7 := by rw [e_4]; exact (f5_r (by decide) hq6)
  refine dA_L (fun q8 e_5 => ?_)
  have hq8 : F5 w q8 := by rw [e_5]; exact (f5_r (by decide) hq7)
  refine dA_L (fun q9 e_6 => ?_)
  have hq9 : F5 w q9 := by rw [e_6]; exact (f5_r (by decide) hq8)
  refine dA_if (fun _ => ?_) (fun _ => ?_)
  · exact l5_zX10_goesAlong_64 w q9 p2 0 hq9
  · refine dA_B (l5_zX10_sumOf w 10 q9 p2 hq9) (fun r10 q12 hq12 => ?_)
    exact l5_zX10_goesAlong_64 w q12 p2 r10 hq12

theorem l5_zX10_obeys_86 (w : dS) (q : dS) (x1 : Int32) (y0 : Int32) (h : F5 w q) : dAll (zX10_obeys_86 q x1 y0) (fun o => F5 w o.2) := by
  unfold zX10_obeys_86
  refine dA_L (fun q1 e_1 => ?_)
  have hq1 : F5 w q1 := by rw [e_1]; exact (f5_r (by decide) h)
  exact dA_some hq1

theorem l5_zX10_obeys (w : dS) (q : dS) (h : F5 w q) : dAll (zX10_obeys q) (fun o => F5 w o.2) := by
  unfold zX10_obeys
  refine dA_if (fun _ => ?_) (fun _ => ?_)
  · refine dA_V dA_tr (fun r2 _ => ?_)
    refine dA_B (l5_zX10_rightsKept w q r2 h) (fun r4 q6 hq6 => ?_)
    exact dA_some hq6
  · refine dA_if (fun _ => ?_) (fun _ => ?_)
    · refine dA_V dA_tr (fun r8 _ => ?_)
      refine dA_B (l5_zX10_swapsKept w q r8 h) (fun r10 q12 hq12 => ?_)
      exact dA_some hq12
    · refine dA_if (fun _ => ?_) (fun _ => ?_)
      · refine dA_B (l5_zX10_passesKept w q h) (fun r14 q16 hq16 => ?_)
        exact dA_some hq16
      · refine dA_V dA_tr (fun r17 _ => ?_)
        refine dA_B (l5_zX10_turnsKept w q r17 h) (fun r19 q21 hq21 => ?_)
        refine dA_if (fun _ => ?_) (fun _ => ?_)
        · exact l5_zX10_obeys_86 w q21 r19 r19 hq21
        · exact l5_zX10_obeys_86 w q21 r19 (q21.1 0 28) hq21

theorem l5_zX10_runs_67 (w : dS) (k19 : dS → Int32 → Int32 → Int32 → Int32 → Option (Int32 × dS)) (hk19 : ∀ (y0 : dS) (y1 : Int32) (y2 : Int32) (y3 : Int32) (y4 : Int32), F5 w y0 → dAll (k19 y0 y1 y2 y3 y4) (fun o => F5 w o.2)) (q : dS) (x1 : Int32) (x2 : Int32) (x3 : Int32) (x4 : Int32) (h : F5 w q) : dAll (zX10_runs_67 k19 q x1 x2 x3 x4) (fun o => F5 w o.2) := by
  unfold zX10_runs_67
  exact hk19 q x1 x2 x3 (x4 + 1) h

theorem l5_zX10_runs_55 (w : dS) (q : dS) (h : F5 w q) : dAll (zX10_runs_55 q) (fun o => F5 w o.2) := by
  unfold zX10_runs_55
  exact dA_some h

theorem l5_zX10_runs_19b (w : dS) (k19 : dS → Int32 → Int32 → Int32 → Int32 → Option (Int32 × dS)) (hk19 : ∀ (y0 : dS) (y1 : Int32) (y2 : Int32) (y3 : Int32) (y4 : Int32), F5 w y0 → dAll (k19 y0 y1 y2 y3 y4) (fun o => F5 w o.2)) (q : dS) (x1 : Int32) (x2 : Int32) (x3 : Int32) (x4 : Int32) (h : F5 w q) : dAll (zX10_runs_19b k19 q x1 x2 x3 x4) (fun o => F5 w o.2) := by
  unfold zX10_runs_19b
  refine dA_if (fun _ => ?_) (fun _ => ?_)
  · refine dA_L (fun q1 e_1 => ?_)
    have hq1 : F5 w q1 := by rw [e_1]; exact (f5_r (by decide) h)
    exact dA_some hq1
  · refine dA_V (l5_zX10_goesAlong w q x1 1 h) (fun q4 hq4 => ?_)
    refine dA_if (fun _ => ?_) (fun _ => ?_)
    · exact l5_zX10_runs_67 w k19 hk19 q4 x1 x2 x3 x4 hq4
    · refine dA_if (fun _ => ?_) (fun _ => ?_)
      · exact l5_zX10_runs_55 w q4 hq4
      · refine dA_B (l5_zX10_obeys w q4 hq4) (fun r5 q7 hq7 => ?_)
        refine dA_if (fun _ => ?_) (fun _ => ?_)
        · refine dA_L (fun q8 e_2 => ?_)
          have hq8 : F5 w q8 := by rw [e_2]; exact (f5_r (by decide) hq7)
          exact l5_zX10_runs_67 w k19 hk19 q8 x1 x2 x3 x4 hq8
        · exact l5_zX10_runs_55 w q7 hq7

theorem l5_zX10_runs_19 (w : dS) (n : Nat) (q : dS) (x1 : Int32) (x2 : Int32) (x3 : Int32) (x4 : Int32) (h : F5 w q) : dAll (zX10_runs_19 n q x1 x2 x3 x4) (fun o => F5 w o.2) := by
  unfold zX10_runs_19
  exact dA_fix (fun (a : dS × Int32 × Int32 × Int32 × Int32) => F5 w a.1) (fun k hk a ha => l5_zX10_runs_19b w  _ (fun q x1 x2 x3 x4 hq => hk (q, x1, x2, x3, x4) hq) a.1 a.2.1 a.2.2.1 a.2.2.2.1 a.2.2.2.2 ha) n _ h

theorem l5_zX10_runs (w : dS) (q : dS) (p1 : Int32) (h : F5 w q) : dAll (zX10_runs q p1) (fun o => F5 w o.2) := by
  unfold zX10_runs
  refine dA_V (l5_zX10_goesAlong w q p1 0 h) (fun q3 hq3 => ?_)
  exact l5_zX10_runs_19 w dF q3 p1 (q3.1 0 48) (q3.1 0 22) 0 hq3

theorem l5_zX10_draws (w : dS) (q : dS) (p1 : Int32) (h : F5 w q) : dAll (zX10_draws q p1) (fun o => F5 w o.2) := by
  unfold zX10_draws
  refine dA_L (fun v1 e_1 => ?_)
  refine dA_L (fun q2 e_2 => ?_)
  have hq2 : F5 w q2 := by rw [e_2]; exact (f5_r (by decide) h)
  refine dA_G (fun _ => ?_)
  exact dA_some hq2
