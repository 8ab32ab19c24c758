theorem cpl_49_1 (q : dK) (hT : TC q) : dAll (zX6_copyFrom_s49_s1 q) (fun (o : dK) => o.1 49 8 = q.1 1 8 ∧ o.1 49 9 = q.1 1 9) := by
  unfold zX6_copyFrom_s49_s1
  refine dA_B (dA_of (ok_X8_pack_s2 q hT)) (fun r1 q3 z => ?_)
  obtain ⟨z1, z3⟩ := z
  replace z1 : q3 = q := z1
  replace z3 : 0 ≤ Int64.toInt r1 := z3
  subst z1
  refine dA_V (dA_of (ok_X8_unpack_s50 q3 r1 hT z3)) (fun q6 h6 => dA_L (fun q7 e7 => dA_L (fun q8 e8 => dA_L (fun q9 e9 => dA_L (fun q10 e10 => ?_)))))
  have h6r : q6.1 1 = q3.1 1 := h6.2.row 1 (by decide) (by decide)
  have h10 : q10.1 1 = q3.1 1 := by rw [e10, cui_o (by decide), e9, cui_o (by decide), e8, cui_o (by decide), e7, cui_o (by decide)]; exact h6r
  unfold zX6_copyFrom_s49_s1_48
  refine dA_fix (fun (a : dK × Int32) => a.1.1 1 = q3.1 1) ?_ dF _ h10
  intro k48 hk48 a ha
  obtain ⟨qa, x2⟩ := a
  replace ha : qa.1 1 = q3.1 1 := ha
  show dAll (zX6_copyFrom_s49_s1_48b (fun q x2 => k48 (q, x2)) qa x2) _
  unfold zX6_copyFrom_s49_s1_48b
  refine dA_if (fun _ => dA_L (fun q1 e1 => ?_)) (fun _ => dA_G (fun _ => dA_L (fun v3 _ => dA_G (fun _ => dA_L (fun q5 e5 => dA_G (fun _ => dA_L (fun v7 _ => dA_G (fun _ => dA_L (fun q9 e9 => hk48 (q9, x2 + 1) ?_)))))))))
  · unfold zX6_copyFrom_s49_s1_94
    refine dA_fix (fun (a : dK × Int32) => a.1.1 1 = q3.1 1 ∧ a.1.1 49 8 = q3.1 1 8) ?_ dF _ ⟨by show q1.1 1 = _; rw [e1, cui_o (by decide)]; exact ha, by show q1.1 49 8 = _; rw [e1, cui_e, ha]⟩
    intro k94 hk94 a hb
    obtain ⟨qb, x2⟩ := a
    obtain ⟨hb, hb8⟩ := hb
    replace hb : qb.1 1 = q3.1 1 := hb
    replace hb8 : qb.1 49 8 = q3.1 1 8 := hb8
    show dAll (zX6_copyFrom_s49_s1_94b (fun q x2 => k94 (q, x2)) qb x2) _
    unfold zX6_copyFrom_s49_s1_94b
    refine dA_if (fun _ => dA_L (fun q1 e1 => dA_some ⟨?_, ?_⟩)) (fun _ => dA_G (fun _ => dA_L (fun v3 _ => dA_G (fun _ => dA_if (fun _ => dA_L (fun q6 e6 => hk94 (q6, x2 + 1) ⟨?_, ?_⟩)) (fun _ => dA_G (fun _ => dA_L (fun q8 e8 => hk94 (q8, x2 + 1) ⟨?_, ?_⟩)))))))
    · rw [e1, cui_n (by decide)]; exact hb8
    · rw [e1, cui_e, hb]
    · show q6.1 1 = _; rw [e6, cui_o (by decide)]; exact hb
    · show q6.1 49 8 = _; rw [e6, cui_o (by decide)]; exact hb8
    · show q8.1 1 = _; rw [e8, cui_o (by decide)]; exact hb
    · show q8.1 49 8 = _; rw [e8, cui_o (by decide)]; exact hb8
  · show q9.1 1 = _; rw [e9, cui_o (by decide), e5, cui_o (by decide)]; exact ha

theorem cpl_56_1 (q : dK) (hT : TC q) : dAll (zX6_copyFrom_s56_s1 q) (fun (o : dK) => o.1 56 8 = q.1 1 8 ∧ o.1 56 9 = q.1 1 9) := by
  unfold zX6_copyFrom_s56_s1
  refine dA_B (dA_of (ok_X8_pack_s2 q hT)) (fun r1 q3 z => ?_)
  obtain ⟨z1, z3⟩ := z
  replace z1 : q3 = q := z1
  replace z3 : 0 ≤ Int64.toInt r1 := z3
  subst z1
  refine dA_V (dA_of (ok_X8_unpack_s57 q3 r1 hT z3)) (fun q6 h6 => dA_L (fun q7 e7 => dA_L (fun q8 e8 => dA_L (fun q9 e9 => dA_L (fun q10 e10 => ?_)))))
  have h6r : q6.1 1 = q3.1 1 := h6.2.row 1 (by decide) (by decide)
  have h10 : q10.1 1 = q3.1 1 := by rw [e10, cui_o (by decide), e9, cui_o (by decide), e8, cui_o (by decide), e7, cui_o (by decide)]; exact h6r
  unfold zX6_copyFrom_s56_s1_48
  refine dA_fix (fun (a : dK × Int32) => a.1.1 1 = q3.1 1) ?_ dF _ h10
  intro k48 hk48 a ha
  obtain ⟨qa, x2⟩ := a
  replace ha : qa.1 1 = q3.1 1 := ha
  show dAll (zX6_copyFrom_s56_s1_48b (fun q x2 => k48 (q, x2)) qa x2) _
  unfold zX6_copyFrom_s56_s1_48b
  refine dA_if (fun _ => dA_L (fun q1 e1 => ?_)) (fun _ => dA_G (fun _ => dA_L (fun v3 _ => dA_G (fun _ => dA_L (fun q5 e5 => dA_G (fun _ => dA_L (fun v7 _ => dA_G (fun _ => dA_L (fun q9 e9 => hk48 (q9, x2 + 1) ?_)))))))))
  · unfold zX6_copyFrom_s56_s1_94
    refine dA_fix (fun (a : dK × Int32) => a.1.1 1 = q3.1 1 ∧ a.1.1 56 8 = q3.1 1 8) ?_ dF _ ⟨by show q1.1 1 = _; rw [e1, cui_o (by decide)]; exact ha, by show q1.1 56 8 = _; rw [e1, cui_e, ha]⟩
    intro k94 hk94 a hb
    obtain ⟨qb, x2⟩ := a
    obtain ⟨hb, hb8⟩ := hb
    replace hb : qb.1 1 = q3.1 1 := hb
    replace hb8 : qb.1 56 8 = q3.1 1 8 := hb8
    show dAll (zX6_copyFrom_s56_s1_94b (fun q x2 => k94 (q, x2)) qb x2) _
    unfold zX6_copyFrom_s56_s1_94b
    refine dA_if (fun _ => dA_L (fun q1 e1 => dA_some ⟨?_, ?_⟩)) (fun _ => dA_G (fun _ => dA_L (fun v3 _ => dA_G (fun _ => dA_if (fun _ => dA_L (fun q6 e6 => hk94 (q6, x2 + 1) ⟨?_, ?_⟩)) (fun _ => dA_G (fun _ => dA_L (fun q8 e8 => hk94 (q8, x2 + 1) ⟨?_, ?_⟩)))))))
    · rw [e1, cui_n (by decide)]; exact hb8
    · rw [e1, cui_e, hb]
    · show q6.1 1 = _; rw [e6, cui_o (by decide)]; exact hb
    · show q6.1 56 8 = _; rw [e6, cui_o (by decide)]; exact hb8
    · show q8.1 1 = _; rw [e8, cui_o (by decide)]; exact hb
    · show q8.1 56 8 = _; rw [e8, cui_o (by decide)]; exact hb8
  · show q9.1 1 = _; rw [e9, cui_o (by decide), e5, cui_o (by decide)]; exact ha

theorem cpl_1_49 (q : dK) (hT : TC q) : dAll (zX6_copyFrom_s1_s49 q) (fun (o : dK) => o.1 1 8 = q.1 49 8 ∧ o.1 1 9 = q.1 49 9) := by
  unfold zX6_copyFrom_s1_s49
  refine dA_B (dA_of (ok_X8_pack_s50 q hT)) (fun r1 q3 z => ?_)
  obtain ⟨z1, z3⟩ := z
  replace z1 : q3 = q := z1
  replace z3 : 0 ≤ Int64.toInt r1 := z3
  subst z1
  refine dA_V (dA_of (ok_X8_unpack_s2 q3 r1 hT z3)) (fun q6 h6 => dA_L (fun q7 e7 => dA_L (fun q8 e8 => dA_L (fun q9 e9 => dA_L (fun q10 e10 => ?_)))))
  have h6r : q6.1 49 = q3.1 49 := h6.2.row 49 (by decide) (by decide)
  have h10 : q10.1 49 = q3.1 49 := by rw [e10, cui_o (by decide), e9, cui_o (by decide), e8, cui_o (by decide), e7, cui_o (by decide)]; exact h6r
  unfold zX6_copyFrom_s1_s49_48
  refine dA_fix (fun (a : dK × Int32) => a.1.1 49 = q3.1 49) ?_ dF _ h10
  intro k48 hk48 a ha
  obtain ⟨qa, x2⟩ := a
  replace ha : qa.1 49 = q3.1 49 := ha
  show dAll (zX6_copyFrom_s1_s49_48b (fun q x2 => k48 (q, x2)) qa x2) _
  unfold zX6_copyFrom_s1_s49_48b
  refine dA_if (fun _ => dA_L (fun q1 e1 => ?_)) (fun _ => dA_G (fun _ => dA_L (fun v3 _ => dA_G (fun _ => dA_L (fun q5 e5 => dA_G (fun _ => dA_L (fun v7 _ => dA_G (fun _ => dA_L (fun q9 e9 => hk48 (q9, x2 + 1) ?_)))))))))
  · unfold zX6_copyFrom_s1_s49_94
    refine dA_fix (fun (a : dK × Int32) => a.1.1 49 = q3.1 49 ∧ a.1.1 1 8 = q3.1 49 8) ?_ dF _ ⟨by show q1.1 49 = _; rw [e1, cui_o (by decide)]; exact ha, by show q1.1 1 8 = _; rw [e1, cui_e, ha]⟩
    intro k94 hk94 a hb
    obtain ⟨qb, x2⟩ := a
    obtain ⟨hb, hb8⟩ := hb
    replace hb : qb.1 49 = q3.1 49 := hb
    replace hb8 : qb.1 1 8 = q3.1 49 8 := hb8
    show dAll (zX6_copyFrom_s1_s49_94b (fun q x2 => k94 (q, x2)) qb x2) _
    unfold zX6_copyFrom_s1_s49_94b
    refine dA_if (fun _ => dA_L (fun q1 e1 => dA_some ⟨?_, ?_⟩)) (fun _ => dA_G (fun _ => dA_L (fun v3 _ => dA_G (fun _ => dA_if (fun _ => dA_L (fun q6 e6 => hk94 (q6, x2 + 1) ⟨?_, ?_⟩)) (fun _ => dA_G (fun _ => dA_L (fun q8 e8 => hk94 (q8, x2 + 1) ⟨?_, ?_⟩)))))))
    · rw [e1, cui_n (by decide)]; exact hb8
    · rw [e1, cui_e, hb]
    · show q6.1 49 = _; rw [e6, cui_o (by decide)]; exact hb
    · show q6.1 1 8 = _; rw [e6, cui_o (by decide)]; exact hb8
    · show q8.1 49 = _; rw [e8, cui_o (by decide)]; exact hb
    · show q8.1 1 8 = _; rw [e8, cui_o (by decide)]; exact hb8
  · show q9.1 49 = _; rw [e9, cui_o (by decide), e5, cui_o (by decide)]; exact ha

theorem cpl_1_56 (q : dK) (hT : TC q) : dAll (zX6_copyFrom_s1_s56 q) (fun (o : dK) => o.1 1 8 = q.1 56 8 ∧ o.1 1 9 = q.1 56 9) := by
  unfold zX6_copyFrom_s1_s56
  refine dA_B (dA_of (ok_X8_pack_s57 q hT)) (fun r1 q3 z => ?_)
  obtain ⟨z1, z3⟩ := z
  replace z1 : q3 = q := z1
  replace z3 : 0 ≤ Int64.toInt r1 := z3
  subst z1
  refine dA_V (dA_of (ok_X8_unpack_s2 q3 r1 hT z3)) (fun q6 h6 => dA_L (fun q7 e7 => dA_L (fun q8 e8 => dA_L (fun q9 e9 => dA_L (fun q10 e10 => ?_)))))
  have h6r : q6.1 56 = q3.1 56 := h6.2.row 56 (by decide) (by decide)
  have h10 : q10.1 56 = q3.1 56 := by rw [e10, cui_o (by decide), e9, cui_o (by decide), e8, cui_o (by decide), e7, cui_o (by decide)]; exact h6r
  unfold zX6_copyFrom_s1_s56_48
  refine dA_fix (fun (a : dK × Int32) => a.1.1 56 = q3.1 56) ?_ dF _ h10
  intro k48 hk48 a ha
  obtain ⟨qa, x2⟩ := a
  replace ha : qa.1 56 = q3.1 56 := ha
  show dAll (zX6_copyFrom_s1_s56_48b (fun q x2 => k48 (q, x2)) qa x2) _
  unfold zX6_copyFrom_s1_s56_48b
  refine dA_if (fun _ => dA_L (fun q1 e1 => ?_)) (fun _ => dA_G (fun _ => dA_L (fun v3 _ => dA_G (fun _ => dA_L (fun q5 e5 => dA_G (fun _ => dA_L (fun v7 _ => dA_G (fun _ => dA_L (fun q9 e9 => hk48 (q9, x2 + 1) ?_)))))))))
  · unfold zX6_copyFrom_s1_s56_94
    refine dA_fix (fun (a : dK × Int32) => a.1.1 56 = q3.1 56 ∧ a.1.1 1 8 = q3.1 56 8) ?_ dF _ ⟨by show q1.1 56 = _; rw [e1, cui_o (by decide)]; exact ha, by show q1.1 1 8 = _; rw [e1, cui_e, ha]⟩
    intro k94 hk94 a hb
    obtain ⟨qb, x2⟩ := a
    obtain ⟨hb, hb8⟩ := hb
    replace hb : qb.1 56 = q3.1 56 := hb
    replace hb8 : qb.1 1 8 = q3.1 56 8 := hb8
    show dAll (zX6_copyFrom_s1_s56_94b (fun q x2 => k94 (q, x2)) qb x2) _
    unfold zX6_copyFrom_s1_s56_94b
    refine dA_if (fun _ => dA_L (fun q1 e1 => dA_some ⟨?_, ?_⟩)) (fun _ => dA_G (fun _ => dA_L (fun v3 _ => dA_G (fun _ => dA_if (fun _ => dA_L (fun q6 e6 => hk94 (q6, x2 + 1) ⟨?_, ?_⟩)) (fun _ => dA_G (fun _ => dA_L (fun q8 e8 => hk94 (q8, x2 + 1) ⟨?_, ?_⟩)))))))
    · rw [e1, cui_n (by decide)]; exact hb8
    · rw [e1, cui_e, hb]
    · show q6.1 56 = _; rw [e6, cui_o (by decide)]; exact hb
    · show q6.1 1 8 = _; rw [e6, cui_o (by decide)]; exact hb8
    · show q8.1 56 = _; rw [e8, cui_o (by decide)]; exact hb
    · show q8.1 1 8 = _; rw [e8, cui_o (by decide)]; exact hb8
  · show q9.1 56 = _; rw [e9, cui_o (by decide), e5, cui_o (by decide)]; exact ha

