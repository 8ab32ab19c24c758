/-! the tape here and there, call by call -/
theorem ltY_end {q o : dK} {q2 o2 : dS} (h : ltY q q2) (h1 : o.1 46 = q.1 46) (h2 : o2.1 7 = q2.1 7) (h3 : 0 ≤ Int32.toInt (o.1 0 12)) (h4 : Int32.toInt (o.1 0 12) ≤ Int32.toInt (q.1 0 12)) (h5 : Int32.toInt (o.1 0 12) = Int32.toInt (o2.1 0 13)) : ltY o o2 := by
  obtain ⟨L, l1, l2, l3, l4⟩ := h
  refine ⟨(Int32.toInt (o.1 0 12)).toNat, by omega, by omega, by omega, fun i hi => ?_⟩
  rw [h1, h2]
  exact l4 i (by omega)
theorem ltY_0 {o : dK} {o2 : dS} (h : Int32.toInt (o.1 0 12) = 0) (h2 : Int32.toInt (o2.1 0 13) = 0) : ltY o o2 := ⟨0, by decide, h, h2, fun i hi => absurd hi (Nat.not_lt_zero i)⟩
theorem ltY_feed {q o : dK} {q2 o2 : dS} {p1 p2 p3 p4 p5 r r2 : Int32} (h : ltY q q2) (e : zX9_feed_s0 q p1 p2 p3 p4 p5 = some (r, o)) (e2 : zX10_feed q2 p1 p2 p3 p4 p5 = some (r2, o2)) : ltY o o2 := by
  have h0 := h
  obtain ⟨L, l1, l2, l3, l4⟩ := h
  have x := da_feed q p1 p2 p3 p4 p5 L l2 l1 (r, o) e
  have y := dm_feed q2 p1 p2 p3 p4 p5 L l3 l1 (r2, o2) e2
  rcases x with ⟨x1, x2⟩ | ⟨x1, x2, x3, x4⟩
  · rcases y with ⟨y1, y2⟩ | ⟨y1, y2, y3, y4⟩
    · replace x2 : o = q := x2
      replace y2 : o2 = q2 := y2
      rw [x2, y2]; exact h0
    · omega
  · rcases y with ⟨y1, y2⟩ | ⟨y1, y2, y3, y4⟩
    · omega
    · refine ⟨L + 20, by omega, by rw [x2]; omega, by rw [y2]; omega, fun i hi => ?_⟩
      by_cases c : i < L
      · rw [x3 i c, y3 i c]; exact l4 i c
      · have a := x4 (i - L) (by omega)
        have b := y4 (i - L) (by omega)
        rw [show L + (i - L) = i by omega] at a b
        rw [a]; exact b
