/-! what an image keeps goes over -/
def CPF (D S : Nat) (q o : dK) : Prop := aT (D + 1) o = aT (S + 1) q ∧ (∀ k : Nat, k ∈ [1, 2, 3, 6, 8, 9] → o.1 D k = q.1 S k) ∧ (∀ i : Nat, i < 6 → o.1 (D + 4) i = q.1 (S + 4) i ∧ o.1 (D + 5) i = q.1 (S + 5) i ∧ o.1 (D + 6) i = q.1 (S + 6) i) ∧ (∀ j k : Nat, ¬ (D ≤ j ∧ j ≤ D + 6) → o.1 j k = q.1 j k) ∧ o.2 = q.2
theorem SRl.cp {D S : Nat} {q o : dK} {R R2 : Nat → Int32} (c : CPF D S q o) (h : SRl S (S + 1) q R) (hR : ∀ k : Nat, R2 k = R k) : SRl D (D + 1) o R2 := by
  obtain ⟨c1, c2, c3, c4, c5⟩ := c
  obtain ⟨s0, s1, s2, s3, s4, s5, s6, s7, s8, s9⟩ := h
  have eR : R2 = R := funext hR
  subst eR
  refine ⟨TWR_a.mpr (c1.trans (TWR_a.mp s0)), ?_, ?_, ?_, ?_, ?_, ?_, s7, fun i hi => ⟨?_, ?_⟩, fun F hF hl => ?_⟩
  · rw [c2 1 (by decide)]; exact s1
  · rw [c2 2 (by decide)]; exact s2
  · rw [c2 3 (by decide)]; exact s3
  · rw [c2 6 (by decide)]; exact s4
  · rw [c2 8 (by decide)]; exact s5
  · rw [c2 9 (by decide)]; exact s6
  · rw [(c3 i hi).1]; exact (s8 i hi).1
  · rw [(c3 i hi).2.1]; exact (s8 i hi).2
  · rw [(c3 F hF).2.2]
    have z := s9 F hF hl
    have zd := dlg_eq (o := o) z.1 (congrArg Prod.snd c5)
    exact z.s zd.1 zd.2 rfl (fun j _ => ⟨rfl, rfl⟩)
theorem aT_c {t : Nat} {q : dK} {j k : Nat} {v : Int32} (h : ¬ j = t ∧ ¬ j = t + 1 ∧ ¬ j = t + 2) : aT t (cui q j k v) = aT t q := by
  unfold aT
  rw [cui_o (fun z => h.1 z.symm), cui_o (fun z => h.2.1 z.symm), cui_o (fun z => h.2.2 z.symm)]
theorem c_unp50 (q : dK) (p1 : Int64) : dAll (zX8_unpack_s50 q p1) (fun o => o.2 = q.2) := by
  unfold zX8_unpack_s50
  refine dA_L (fun q1 e1 => dA_L (fun v2 _ => dA_L (fun q3 e3 => ?_)))
  have h3 : q3.2 = q.2 := by rw [e3, e1]; rfl
  unfold zX8_unpack_s50_31
  refine dA_fix (fun (a : dK × Int64 × Int32) => a.1.2 = q.2) ?_ dF _ h3
  intro k hk a ha
  obtain ⟨qa, x3, x5⟩ := a
  replace ha : qa.2 = q.2 := ha
  show dAll (zX8_unpack_s50_31b (fun q x3 x5 => k (q, x3, x5)) qa x3 x5) _
  unfold zX8_unpack_s50_31b
  refine dA_if (fun _ => dA_L (fun q8 e8 => dA_some ?_)) (fun _ => dA_G (fun _ => dA_L (fun q5 e5 => dA_G (fun _ => dA_L (fun q7 e7 => hk (q7, _, _) ?_)))))
  · show q8.2 = _
    rw [e8]; exact ha
  · show q7.2 = _
    rw [e7]
    show q5.2 = _
    rw [e5]; exact ha

theorem c_unp57 (q : dK) (p1 : Int64) : dAll (zX8_unpack_s57 q p1) (fun o => o.2 = q.2) := by
  unfold zX8_unpack_s57
  refine dA_L (fun q1 e1 => dA_L (fun v2 _ => dA_L (fun q3 e3 => ?_)))
  have h3 : q3.2 = q.2 := by rw [e3, e1]; rfl
  unfold zX8_unpack_s57_31
  refine dA_fix (fun (a : dK × Int64 × Int32) => a.1.2 = q.2) ?_ dF _ h3
  intro k hk a ha
  obtain ⟨qa, x3, x5⟩ := a
  replace ha : qa.2 = q.2 := ha
  show dAll (zX8_unpack_s57_31b (fun q x3 x5 => k (q, x3, x5)) qa x3 x5) _
  unfold zX8_unpack_s57_31b
  refine dA_if (fun _ => dA_L (fun q8 e8 => dA_some ?_)) (fun _ => dA_G (fun _ => dA_L (fun q5 e5 => dA_G (fun _ => dA_L (fun q7 e7 => hk (q7, _, _) ?_)))))
  · show q8.2 = _
    rw [e8]; exact ha
  · show q7.2 = _
    rw [e7]
    show q5.2 = _
    rw [e5]; exact ha
theorem c_copyFrom_s49_s1 (q : dK) (hT : TC q) : dAll (zX6_copyFrom_s49_s1 q) (fun (o : dK) => CPF 49 1 q o) := by
  have d0 : Int32.toInt 0 = 0 := by decide
  have d1 : Int32.toInt 1 = 1 := by decide
  have d6 : Int32.toInt 6 = 6 := by decide
  unfold zX6_copyFrom_s49_s1
  refine dA_B (dA_and (dA_of (ok2_X8_pack_s2 q hT)) (dA_of (ok_X8_pack_s2 q hT))) (fun r1 q3 z => ?_)
  obtain ⟨⟨z1, z2⟩, -, z3⟩ := z
  replace z1 : q3 = q := z1
  replace z2 : Int64.toInt r1 = pk (aT 2 q) := z2
  replace z3 : 0 ≤ Int64.toInt r1 := z3
  subst z1
  refine dA_V (dA_and (dA_of (ok2_X8_unpack_s50 q3 r1 z3)) (dA_and (c_unp50 q3 r1) (dA_of (ok_X8_unpack_s50 q3 r1 hT z3)))) (fun q6 h6 => dA_L (fun q7 e7 => dA_L (fun q8 e8 => dA_L (fun q9 e9 => dA_L (fun q10 e10 => ?_)))))
  obtain ⟨h6, u2, -, u3⟩ := h6
  rw [z2, unp_pk (tc_a2 hT)] at h6
  have f6 : ∀ j k : Nat, ¬ (49 ≤ j ∧ j ≤ 49 + 6) → q6.1 j k = q3.1 j k := fun j k hj => u3.1 j k (by simp only [List.mem_cons, List.not_mem_nil, or_false, not_or]; omega) (by simp only [List.mem_cons, List.not_mem_nil, or_false, not_or, Prod.mk.injEq]; omega)
  have f10 : ∀ j k : Nat, ¬ (49 ≤ j ∧ j ≤ 49 + 6) → q10.1 j k = q3.1 j k := fun j k hj => by rw [e10, cui_o (by omega), e9, cui_o (by omega), e8, cui_o (by omega), e7, cui_o (by omega)]; exact f6 j k hj
  have v1 : q10.1 49 1 = q3.1 1 1 := by rw [e10, cui_n (by decide), e9, cui_n (by decide), e8, cui_n (by decide), e7, cui_e]; exact f6 1 1 (by decide)
  have v2 : q10.1 49 2 = q3.1 1 2 := by rw [e10, cui_n (by decide), e9, cui_n (by decide), e8, cui_e, e7, cui_o (by decide)]; exact f6 1 2 (by decide)
  have v3 : q10.1 49 3 = q3.1 1 3 := by rw [e10, cui_n (by decide), e9, cui_e, e8, cui_o (by decide), e7, cui_o (by decide)]; exact f6 1 3 (by decide)
  have v6 : q10.1 49 6 = q3.1 1 6 := by rw [e10, cui_e, e9, cui_o (by decide), e8, cui_o (by decide), e7, cui_o (by decide)]; exact f6 1 6 (by decide)
  have h10 : aT 50 q10 = aT 2 q3 := by rw [e10, aT_c (by decide), e9, aT_c (by decide), e8, aT_c (by decide), e7, aT_c (by decide)]; exact h6
  have x10 : q10.2 = q3.2 := by rw [e10, e9, e8, e7]; exact u2
  clear e7 e8 e9 e10 f6 h6 u2 u3
  unfold zX6_copyFrom_s49_s1_48
  refine dA_fix (fun (a : dK × Int32) => aT 50 a.1 = aT 2 q3 ∧ (∀ j k : Nat, ¬ (49 ≤ j ∧ j ≤ 49 + 6) → a.1.1 j k = q3.1 j k) ∧ a.1.2 = q3.2 ∧ (a.1.1 49 1 = q3.1 1 1 ∧ a.1.1 49 2 = q3.1 1 2 ∧ a.1.1 49 3 = q3.1 1 3 ∧ a.1.1 49 6 = q3.1 1 6) ∧ ∃ i : Nat, i ≤ 6 ∧ Int32.toInt a.2 = (i : Int) ∧ ∀ b : Nat, b < i → a.1.1 53 b = q3.1 5 b ∧ a.1.1 54 b = q3.1 6 b) ?_ dF _ ⟨h10, f10, x10, ⟨v1, v2, v3, v6⟩, 0, by decide, d0, fun b hb => absurd hb (Nat.not_lt_zero b)⟩
  clear h10 f10 x10 v1 v2 v3 v6
  intro k48 hk48 a ha
  obtain ⟨qa, x2⟩ := a
  obtain ⟨h1, h2, h3, ⟨w1, w2, w3, w6⟩, i, hi, h4, h5⟩ := ha
  replace h1 : aT 50 qa = aT 2 q3 := h1
  replace h2 : ∀ j k : Nat, ¬ (49 ≤ j ∧ j ≤ 49 + 6) → qa.1 j k = q3.1 j k := h2
  replace h3 : qa.2 = q3.2 := h3
  replace w1 : qa.1 49 1 = q3.1 1 1 := w1
  replace w2 : qa.1 49 2 = q3.1 1 2 := w2
  replace w3 : qa.1 49 3 = q3.1 1 3 := w3
  replace w6 : qa.1 49 6 = q3.1 1 6 := w6
  replace h4 : Int32.toInt x2 = (i : Int) := h4
  replace h5 : ∀ b : Nat, b < i → qa.1 53 b = q3.1 5 b ∧ qa.1 54 b = q3.1 6 b := h5
  have n2 : Int32.toNatClampNeg x2 = i := by have n := cl_eq (i := x2) (by omega); omega
  show dAll (zX6_copyFrom_s49_s1_48b (fun q x2 => k48 (q, x2)) qa x2) _
  unfold zX6_copyFrom_s49_s1_48b
  rw [n2]
  refine dA_le (fun c => dA_L (fun q1 e1 => ?_)) (fun c => dA_G (fun _ => dA_L (fun v3 e3 => dA_G (fun _ => dA_L (fun q5 e5 => dA_G (fun _ => dA_L (fun v7 e7 => dA_G (fun _ => dA_L (fun q9 e9 => hk48 (q9, x2 + 1) ⟨?_, fun j k hj => ?_, ?_, ⟨?_, ?_, ?_, ?_⟩, i + 1, by omega, by show Int32.toInt (x2 + 1) = _; rw [ti_add h4 d1 (by omega) (by omega)]; omega, fun b hb => ⟨?_, ?_⟩⟩)))))))))
  · have ei : i = 6 := by omega
    subst ei
    have hB1 : aT 50 q1 = aT 2 q3 := by rw [e1, aT_c (by decide)]; exact h1
    have hB2 : ∀ j k : Nat, ¬ (49 ≤ j ∧ j ≤ 49 + 6) → q1.1 j k = q3.1 j k := fun j k hj => by rw [e1, cui_o (by omega)]; exact h2 j k hj
    have hB3 : q1.2 = q3.2 := by rw [e1]; exact h3
    have y1 : q1.1 49 1 = q3.1 1 1 := by rw [e1, cui_n (by decide)]; exact w1
    have y2 : q1.1 49 2 = q3.1 1 2 := by rw [e1, cui_n (by decide)]; exact w2
    have y3 : q1.1 49 3 = q3.1 1 3 := by rw [e1, cui_n (by decide)]; exact w3
    have y6 : q1.1 49 6 = q3.1 1 6 := by rw [e1, cui_n (by decide)]; exact w6
    have y8 : q1.1 49 8 = q3.1 1 8 := by rw [e1, cui_e]; exact h2 1 8 (by decide)
    have yA : ∀ b : Nat, b < 6 → q1.1 53 b = q3.1 5 b ∧ q1.1 54 b = q3.1 6 b := fun b hb => by rw [e1, cui_o (by decide), cui_o (by decide)]; exact h5 b hb
    clear e1 h1 h2 h3 h4 h5 w1 w2 w3 w6
    unfold zX6_copyFrom_s49_s1_94
    refine dA_fix (fun (a : dK × Int32) => aT 50 a.1 = aT 2 q3 ∧ (∀ j k : Nat, ¬ (49 ≤ j ∧ j ≤ 49 + 6) → a.1.1 j k = q3.1 j k) ∧ a.1.2 = q3.2 ∧ (a.1.1 49 1 = q3.1 1 1 ∧ a.1.1 49 2 = q3.1 1 2 ∧ a.1.1 49 3 = q3.1 1 3 ∧ a.1.1 49 6 = q3.1 1 6 ∧ a.1.1 49 8 = q3.1 1 8) ∧ (∀ b : Nat, b < 6 → a.1.1 53 b = q3.1 5 b ∧ a.1.1 54 b = q3.1 6 b) ∧ ∃ i : Nat, i ≤ 6 ∧ Int32.toInt a.2 = (i : Int) ∧ ∀ b : Nat, b < i → a.1.1 55 b = q3.1 7 b) ?_ dF _ ⟨hB1, hB2, hB3, ⟨y1, y2, y3, y6, y8⟩, yA, 0, by decide, d0, fun b hb => absurd hb (Nat.not_lt_zero b)⟩
    clear hB1 hB2 hB3 y1 y2 y3 y6 y8 yA
    intro k94 hk94 a hb
    obtain ⟨qb, x4⟩ := a
    obtain ⟨h1, h2, h3, ⟨w1, w2, w3, w6, w8⟩, hA, i, hi, h4, h5⟩ := hb
    replace h1 : aT 50 qb = aT 2 q3 := h1
    replace h2 : ∀ j k : Nat, ¬ (49 ≤ j ∧ j ≤ 49 + 6) → qb.1 j k = q3.1 j k := h2
    replace h3 : qb.2 = q3.2 := h3
    replace w1 : qb.1 49 1 = q3.1 1 1 := w1
    replace w2 : qb.1 49 2 = q3.1 1 2 := w2
    replace w3 : qb.1 49 3 = q3.1 1 3 := w3
    replace w6 : qb.1 49 6 = q3.1 1 6 := w6
    replace w8 : qb.1 49 8 = q3.1 1 8 := w8
    replace hA : ∀ b : Nat, b < 6 → qb.1 53 b = q3.1 5 b ∧ qb.1 54 b = q3.1 6 b := hA
    replace h4 : Int32.toInt x4 = (i : Int) := h4
    replace h5 : ∀ b : Nat, b < i → qb.1 55 b = q3.1 7 b := h5
    have n4 : Int32.toNatClampNeg x4 = i := by have n := cl_eq (i := x4) (by omega); omega
    show dAll (zX6_copyFrom_s49_s1_94b (fun q x2 => k94 (q, x2)) qb x4) _
    unfold zX6_copyFrom_s49_s1_94b
    rw [n4]
    have hstep : ∀ (v : Int32) (q6 : dK), q6 = cui qb 55 i v → v = qb.1 7 i → i < 6 → dAll (k94 (q6, x4 + 1)) (fun (o : dK) => CPF 49 1 q3 o) := by
      intro v q6 e6 ev hi6
      refine hk94 (q6, x4 + 1) ⟨?_, fun j k hj => ?_, ?_, ⟨?_, ?_, ?_, ?_, ?_⟩, fun b hb => ?_, i + 1, by omega, by show Int32.toInt (x4 + 1) = _; rw [ti_add h4 d1 (by omega) (by omega)]; omega, fun b hb => ?_⟩
      · show aT 50 q6 = _
        rw [e6, aT_c (by decide)]; exact h1
      · show q6.1 j k = _
        rw [e6, cui_o (by omega)]; exact h2 j k hj
      · show q6.2 = _
        rw [e6]; exact h3
      · show q6.1 49 1 = _
        rw [e6, cui_o (by decide)]; exact w1
      · show q6.1 49 2 = _
        rw [e6, cui_o (by decide)]; exact w2
      · show q6.1 49 3 = _
        rw [e6, cui_o (by decide)]; exact w3
      · show q6.1 49 6 = _
        rw [e6, cui_o (by decide)]; exact w6
      · show q6.1 49 8 = _
        rw [e6, cui_o (by decide)]; exact w8
      · show q6.1 53 b = _ ∧ q6.1 54 b = _
        rw [e6, cui_o (by decide), cui_o (by decide)]; exact hA b hb
      · show q6.1 55 b = _
        rw [e6]
        by_cases cb : b = i
        · rw [cb, cui_e, ev]; exact h2 7 i (by decide)
        · rw [cui_n cb]; exact h5 b (by omega)
    refine dA_le (fun c => dA_L (fun q1 e1 => dA_some ?_)) (fun c => dA_G (fun _ => dA_L (fun v3 e3 => dA_G (fun _ => dA_if (fun c0 => dA_L (fun q6 e6 => hstep 0 q6 e6 (by rw [← e3]; exact c0.symm) (by omega))) (fun _ => dA_G (fun _ => dA_L (fun q8 e8 => hstep v3 q8 e8 e3 (by omega))))))))
    have ei : i = 6 := by omega
    subst ei
    refine ⟨by rw [e1, aT_c (by decide)]; exact h1, fun k hk => ?_, fun i hi => ?_, fun j k hj => by rw [e1, cui_o (by omega)]; exact h2 j k hj, by rw [e1]; exact h3⟩
    · simp only [List.mem_cons, List.not_mem_nil, or_false] at hk
      rcases hk with e | e | e | e | e | e <;> subst e
      · rw [e1, cui_n (by decide)]; exact w1
      · rw [e1, cui_n (by decide)]; exact w2
      · rw [e1, cui_n (by decide)]; exact w3
      · rw [e1, cui_n (by decide)]; exact w6
      · rw [e1, cui_n (by decide)]; exact w8
      · rw [e1, cui_e]; exact h2 1 9 (by decide)
    · show q1.1 53 i = q3.1 5 i ∧ q1.1 54 i = q3.1 6 i ∧ q1.1 55 i = q3.1 7 i
      rw [e1, cui_o (by decide), cui_o (by decide), cui_o (by decide)]
      exact ⟨(hA i hi).1, (hA i hi).2, h5 i hi⟩
  · show aT 50 q9 = _
    rw [e9, aT_c (by decide), e5, aT_c (by decide)]; exact h1
  · show q9.1 j k = _
    rw [e9, cui_o (by omega), e5, cui_o (by omega)]; exact h2 j k hj
  · show q9.2 = _
    rw [e9]
    show q5.2 = _
    rw [e5]; exact h3
  · show q9.1 49 1 = _
    rw [e9, cui_o (by decide), e5, cui_o (by decide)]; exact w1
  · show q9.1 49 2 = _
    rw [e9, cui_o (by decide), e5, cui_o (by decide)]; exact w2
  · show q9.1 49 3 = _
    rw [e9, cui_o (by decide), e5, cui_o (by decide)]; exact w3
  · show q9.1 49 6 = _
    rw [e9, cui_o (by decide), e5, cui_o (by decide)]; exact w6
  · show q9.1 53 b = _
    rw [e9, cui_o (by decide), e5]
    by_cases cb : b = i
    · rw [cb, cui_e, e3]; exact h2 5 i (by decide)
    · rw [cui_n cb]; exact (h5 b (by omega)).1
  · show q9.1 54 b = _
    rw [e9]
    by_cases cb : b = i
    · rw [cb, cui_e, e7, e5, cui_o (by decide)]; exact h2 6 i (by decide)
    · rw [cui_n cb, e5, cui_o (by decide)]; exact (h5 b (by omega)).2

theorem c_copyFrom_s56_s1 (q : dK) (hT : TC q) : dAll (zX6_copyFrom_s56_s1 q) (fun (o : dK) => CPF 56 1 q o) := by
  have d0 : Int32.toInt 0 = 0 := by decide
  have d1 : Int32.toInt 1 = 1 := by decide
  have d6 : Int32.toInt 6 = 6 := by decide
  unfold zX6_copyFrom_s56_s1
  refine dA_B (dA_and (dA_of (ok2_X8_pack_s2 q hT)) (dA_of (ok_X8_pack_s2 q hT))) (fun r1 q3 z => ?_)
  obtain ⟨⟨z1, z2⟩, -, z3⟩ := z
  replace z1 : q3 = q := z1
  replace z2 : Int64.toInt r1 = pk (aT 2 q) := z2
  replace z3 : 0 ≤ Int64.toInt r1 := z3
  subst z1
  refine dA_V (dA_and (dA_of (ok2_X8_unpack_s57 q3 r1 z3)) (dA_and (c_unp57 q3 r1) (dA_of (ok_X8_unpack_s57 q3 r1 hT z3)))) (fun q6 h6 => dA_L (fun q7 e7 => dA_L (fun q8 e8 => dA_L (fun q9 e9 => dA_L (fun q10 e10 => ?_)))))
  obtain ⟨h6, u2, -, u3⟩ := h6
  rw [z2, unp_pk (tc_a2 hT)] at h6
  have f6 : ∀ j k : Nat, ¬ (56 ≤ j ∧ j ≤ 56 + 6) → q6.1 j k = q3.1 j k := fun j k hj => u3.1 j k (by simp only [List.mem_cons, List.not_mem_nil, or_false, not_or]; omega) (by simp only [List.mem_cons, List.not_mem_nil, or_false, not_or, Prod.mk.injEq]; omega)
  have f10 : ∀ j k : Nat, ¬ (56 ≤ j ∧ j ≤ 56 + 6) → q10.1 j k = q3.1 j k := fun j k hj => by rw [e10, cui_o (by omega), e9, cui_o (by omega), e8, cui_o (by omega), e7, cui_o (by omega)]; exact f6 j k hj
  have v1 : q10.1 56 1 = q3.1 1 1 := by rw [e10, cui_n (by decide), e9, cui_n (by decide), e8, cui_n (by decide), e7, cui_e]; exact f6 1 1 (by decide)
  have v2 : q10.1 56 2 = q3.1 1 2 := by rw [e10, cui_n (by decide), e9, cui_n (by decide), e8, cui_e, e7, cui_o (by decide)]; exact f6 1 2 (by decide)
  have v3 : q10.1 56 3 = q3.1 1 3 := by rw [e10, cui_n (by decide), e9, cui_e, e8, cui_o (by decide), e7, cui_o (by decide)]; exact f6 1 3 (by decide)
  have v6 : q10.1 56 6 = q3.1 1 6 := by rw [e10, cui_e, e9, cui_o (by decide), e8, cui_o (by decide), e7, cui_o (by decide)]; exact f6 1 6 (by decide)
  have h10 : aT 57 q10 = aT 2 q3 := by rw [e10, aT_c (by decide), e9, aT_c (by decide), e8, aT_c (by decide), e7, aT_c (by decide)]; exact h6
  have x10 : q10.2 = q3.2 := by rw [e10, e9, e8, e7]; exact u2
  clear e7 e8 e9 e10 f6 h6 u2 u3
  unfold zX6_copyFrom_s56_s1_48
  refine dA_fix (fun (a : dK × Int32) => aT 57 a.1 = aT 2 q3 ∧ (∀ j k : Nat, ¬ (56 ≤ j ∧ j ≤ 56 + 6) → a.1.1 j k = q3.1 j k) ∧ a.1.2 = q3.2 ∧ (a.1.1 56 1 = q3.1 1 1 ∧ a.1.1 56 2 = q3.1 1 2 ∧ a.1.1 56 3 = q3.1 1 3 ∧ a.1.1 56 6 = q3.1 1 6) ∧ ∃ i : Nat, i ≤ 6 ∧ Int32.toInt a.2 = (i : Int) ∧ ∀ b : Nat, b < i → a.1.1 60 b = q3.1 5 b ∧ a.1.1 61 b = q3.1 6 b) ?_ dF _ ⟨h10, f10, x10, ⟨v1, v2, v3, v6⟩, 0, by decide, d0, fun b hb => absurd hb (Nat.not_lt_zero b)⟩
  clear h10 f10 x10 v1 v2 v3 v6
  intro k48 hk48 a ha
  obtain ⟨qa, x2⟩ := a
  obtain ⟨h1, h2, h3, ⟨w1, w2, w3, w6⟩, i, hi, h4, h5⟩ := ha
  replace h1 : aT 57 qa = aT 2 q3 := h1
  replace h2 : ∀ j k : Nat, ¬ (56 ≤ j ∧ j ≤ 56 + 6) → qa.1 j k = q3.1 j k := h2
  replace h3 : qa.2 = q3.2 := h3
  replace w1 : qa.1 56 1 = q3.1 1 1 := w1
  replace w2 : qa.1 56 2 = q3.1 1 2 := w2
  replace w3 : qa.1 56 3 = q3.1 1 3 := w3
  replace w6 : qa.1 56 6 = q3.1 1 6 := w6
  replace h4 : Int32.toInt x2 = (i : Int) := h4
  replace h5 : ∀ b : Nat, b < i → qa.1 60 b = q3.1 5 b ∧ qa.1 61 b = q3.1 6 b := h5
  have n2 : Int32.toNatClampNeg x2 = i := by have n := cl_eq (i := x2) (by omega); omega
  show dAll (zX6_copyFrom_s56_s1_48b (fun q x2 => k48 (q, x2)) qa x2) _
  unfold zX6_copyFrom_s56_s1_48b
  rw [n2]
  refine dA_le (fun c => dA_L (fun q1 e1 => ?_)) (fun c => dA_G (fun _ => dA_L (fun v3 e3 => dA_G (fun _ => dA_L (fun q5 e5 => dA_G (fun _ => dA_L (fun v7 e7 => dA_G (fun _ => dA_L (fun q9 e9 => hk48 (q9, x2 + 1) ⟨?_, fun j k hj => ?_, ?_, ⟨?_, ?_, ?_, ?_⟩, i + 1, by omega, by show Int32.toInt (x2 + 1) = _; rw [ti_add h4 d1 (by omega) (by omega)]; omega, fun b hb => ⟨?_, ?_⟩⟩)))))))))
  · have ei : i = 6 := by omega
    subst ei
    have hB1 : aT 57 q1 = aT 2 q3 := by rw [e1, aT_c (by decide)]; exact h1
    have hB2 : ∀ j k : Nat, ¬ (56 ≤ j ∧ j ≤ 56 + 6) → q1.1 j k = q3.1 j k := fun j k hj => by rw [e1, cui_o (by omega)]; exact h2 j k hj
    have hB3 : q1.2 = q3.2 := by rw [e1]; exact h3
    have y1 : q1.1 56 1 = q3.1 1 1 := by rw [e1, cui_n (by decide)]; exact w1
    have y2 : q1.1 56 2 = q3.1 1 2 := by rw [e1, cui_n (by decide)]; exact w2
    have y3 : q1.1 56 3 = q3.1 1 3 := by rw [e1, cui_n (by decide)]; exact w3
    have y6 : q1.1 56 6 = q3.1 1 6 := by rw [e1, cui_n (by decide)]; exact w6
    have y8 : q1.1 56 8 = q3.1 1 8 := by rw [e1, cui_e]; exact h2 1 8 (by decide)
    have yA : ∀ b : Nat, b < 6 → q1.1 60 b = q3.1 5 b ∧ q1.1 61 b = q3.1 6 b := fun b hb => by rw [e1, cui_o (by decide), cui_o (by decide)]; exact h5 b hb
    clear e1 h1 h2 h3 h4 h5 w1 w2 w3 w6
    unfold zX6_copyFrom_s56_s1_94
    refine dA_fix (fun (a : dK × Int32) => aT 57 a.1 = aT 2 q3 ∧ (∀ j k : Nat, ¬ (56 ≤ j ∧ j ≤ 56 + 6) → a.1.1 j k = q3.1 j k) ∧ a.1.2 = q3.2 ∧ (a.1.1 56 1 = q3.1 1 1 ∧ a.1.1 56 2 = q3.1 1 2 ∧ a.1.1 56 3 = q3.1 1 3 ∧ a.1.1 56 6 = q3.1 1 6 ∧ a.1.1 56 8 = q3.1 1 8) ∧ (∀ b : Nat, b < 6 → a.1.1 60 b = q3.1 5 b ∧ a.1.1 61 b = q3.1 6 b) ∧ ∃ i : Nat, i ≤ 6 ∧ Int32.toInt a.2 = (i : Int) ∧ ∀ b : Nat, b < i → a.1.1 62 b = q3.1 7 b) ?_ dF _ ⟨hB1, hB2, hB3, ⟨y1, y2, y3, y6, y8⟩, yA, 0, by decide, d0, fun b hb => absurd hb (Nat.not_lt_zero b)⟩
    clear hB1 hB2 hB3 y1 y2 y3 y6 y8 yA
    intro k94 hk94 a hb
    obtain ⟨qb, x4⟩ := a
    obtain ⟨h1, h2, h3, ⟨w1, w2, w3, w6, w8⟩, hA, i, hi, h4, h5⟩ := hb
    replace h1 : aT 57 qb = aT 2 q3 := h1
    replace h2 : ∀ j k : Nat, ¬ (56 ≤ j ∧ j ≤ 56 + 6) → qb.1 j k = q3.1 j k := h2
    replace h3 : qb.2 = q3.2 := h3
    replace w1 : qb.1 56 1 = q3.1 1 1 := w1
    replace w2 : qb.1 56 2 = q3.1 1 2 := w2
    replace w3 : qb.1 56 3 = q3.1 1 3 := w3
    replace w6 : qb.1 56 6 = q3.1 1 6 := w6
    replace w8 : qb.1 56 8 = q3.1 1 8 := w8
    replace hA : ∀ b : Nat, b < 6 → qb.1 60 b = q3.1 5 b ∧ qb.1 61 b = q3.1 6 b := hA
    replace h4 : Int32.toInt x4 = (i : Int) := h4
    replace h5 : ∀ b : Nat, b < i → qb.1 62 b = q3.1 7 b := h5
    have n4 : Int32.toNatClampNeg x4 = i := by have n := cl_eq (i := x4) (by omega); omega
    show dAll (zX6_copyFrom_s56_s1_94b (fun q x2 => k94 (q, x2)) qb x4) _
    unfold zX6_copyFrom_s56_s1_94b
    rw [n4]
    have hstep : ∀ (v : Int32) (q6 : dK), q6 = cui qb 62 i v → v = qb.1 7 i → i < 6 → dAll (k94 (q6, x4 + 1)) (fun (o : dK) => CPF 56 1 q3 o) := by
      intro v q6 e6 ev hi6
      refine hk94 (q6, x4 + 1) ⟨?_, fun j k hj => ?_, ?_, ⟨?_, ?_, ?_, ?_, ?_⟩, fun b hb => ?_, i + 1, by omega, by show Int32.toInt (x4 + 1) = _; rw [ti_add h4 d1 (by omega) (by omega)]; omega, fun b hb => ?_⟩
      · show aT 57 q6 = _
        rw [e6, aT_c (by decide)]; exact h1
      · show q6.1 j k = _
        rw [e6, cui_o (by omega)]; exact h2 j k hj
      · show q6.2 = _
        rw [e6]; exact h3
      · show q6.1 56 1 = _
        rw [e6, cui_o (by decide)]; exact w1
      · show q6.1 56 2 = _
        rw [e6, cui_o (by decide)]; exact w2
      · show q6.1 56 3 = _
        rw [e6, cui_o (by decide)]; exact w3
      · show q6.1 56 6 = _
        rw [e6, cui_o (by decide)]; exact w6
      · show q6.1 56 8 = _
        rw [e6, cui_o (by decide)]; exact w8
      · show q6.1 60 b = _ ∧ q6.1 61 b = _
        rw [e6, cui_o (by decide), cui_o (by decide)]; exact hA b hb
      · show q6.1 62 b = _
        rw [e6]
        by_cases cb : b = i
        · rw [cb, cui_e, ev]; exact h2 7 i (by decide)
        · rw [cui_n cb]; exact h5 b (by omega)
    refine dA_le (fun c => dA_L (fun q1 e1 => dA_some ?_)) (fun c => dA_G (fun _ => dA_L (fun v3 e3 => dA_G (fun _ => dA_if (fun c0 => dA_L (fun q6 e6 => hstep 0 q6 e6 (by rw [← e3]; exact c0.symm) (by omega))) (fun _ => dA_G (fun _ => dA_L (fun q8 e8 => hstep v3 q8 e8 e3 (by omega))))))))
    have ei : i = 6 := by omega
    subst ei
    refine ⟨by rw [e1, aT_c (by decide)]; exact h1, fun k hk => ?_, fun i hi => ?_, fun j k hj => by rw [e1, cui_o (by omega)]; exact h2 j k hj, by rw [e1]; exact h3⟩
    · simp only [List.mem_cons, List.not_mem_nil, or_false] at hk
      rcases hk with e | e | e | e | e | e <;> subst e
      · rw [e1, cui_n (by decide)]; exact w1
      · rw [e1, cui_n (by decide)]; exact w2
      · rw [e1, cui_n (by decide)]; exact w3
      · rw [e1, cui_n (by decide)]; exact w6
      · rw [e1, cui_n (by decide)]; exact w8
      · rw [e1, cui_e]; exact h2 1 9 (by decide)
    · show q1.1 60 i = q3.1 5 i ∧ q1.1 61 i = q3.1 6 i ∧ q1.1 62 i = q3.1 7 i
      rw [e1, cui_o (by decide), cui_o (by decide), cui_o (by decide)]
      exact ⟨(hA i hi).1, (hA i hi).2, h5 i hi⟩
  · show aT 57 q9 = _
    rw [e9, aT_c (by decide), e5, aT_c (by decide)]; exact h1
  · show q9.1 j k = _
    rw [e9, cui_o (by omega), e5, cui_o (by omega)]; exact h2 j k hj
  · show q9.2 = _
    rw [e9]
    show q5.2 = _
    rw [e5]; exact h3
  · show q9.1 56 1 = _
    rw [e9, cui_o (by decide), e5, cui_o (by decide)]; exact w1
  · show q9.1 56 2 = _
    rw [e9, cui_o (by decide), e5, cui_o (by decide)]; exact w2
  · show q9.1 56 3 = _
    rw [e9, cui_o (by decide), e5, cui_o (by decide)]; exact w3
  · show q9.1 56 6 = _
    rw [e9, cui_o (by decide), e5, cui_o (by decide)]; exact w6
  · show q9.1 60 b = _
    rw [e9, cui_o (by decide), e5]
    by_cases cb : b = i
    · rw [cb, cui_e, e3]; exact h2 5 i (by decide)
    · rw [cui_n cb]; exact (h5 b (by omega)).1
  · show q9.1 61 b = _
    rw [e9]
    by_cases cb : b = i
    · rw [cb, cui_e, e7, e5, cui_o (by decide)]; exact h2 6 i (by decide)
    · rw [cui_n cb, e5, cui_o (by decide)]; exact (h5 b (by omega)).2

theorem c_copyFrom_s1_s49 (q : dK) (hT : TC q) : dAll (zX6_copyFrom_s1_s49 q) (fun (o : dK) => CPF 1 49 q o) := by
  have d0 : Int32.toInt 0 = 0 := by decide
  have d1 : Int32.toInt 1 = 1 := by decide
  have d6 : Int32.toInt 6 = 6 := by decide
  unfold zX6_copyFrom_s1_s49
  refine dA_B (dA_and (dA_of (ok2_X8_pack_s50 q hT)) (dA_of (ok_X8_pack_s50 q hT))) (fun r1 q3 z => ?_)
  obtain ⟨⟨z1, z2⟩, -, z3⟩ := z
  replace z1 : q3 = q := z1
  replace z2 : Int64.toInt r1 = pk (aT 50 q) := z2
  replace z3 : 0 ≤ Int64.toInt r1 := z3
  subst z1
  refine dA_V (dA_and (dA_of (ok2_X8_unpack_s2 q3 r1 z3)) (dA_and (c_unp2 q3 r1) (dA_of (ok_X8_unpack_s2 q3 r1 hT z3)))) (fun q6 h6 => dA_L (fun q7 e7 => dA_L (fun q8 e8 => dA_L (fun q9 e9 => dA_L (fun q10 e10 => ?_)))))
  obtain ⟨h6, u2, -, u3⟩ := h6
  rw [z2, unp_pk (tc_a50 hT)] at h6
  have f6 : ∀ j k : Nat, ¬ (1 ≤ j ∧ j ≤ 1 + 6) → q6.1 j k = q3.1 j k := fun j k hj => u3.1 j k (by simp only [List.mem_cons, List.not_mem_nil, or_false, not_or]; omega) (by simp only [List.mem_cons, List.not_mem_nil, or_false, not_or, Prod.mk.injEq]; omega)
  have f10 : ∀ j k : Nat, ¬ (1 ≤ j ∧ j ≤ 1 + 6) → q10.1 j k = q3.1 j k := fun j k hj => by rw [e10, cui_o (by omega), e9, cui_o (by omega), e8, cui_o (by omega), e7, cui_o (by omega)]; exact f6 j k hj
  have v1 : q10.1 1 1 = q3.1 49 1 := by rw [e10, cui_n (by decide), e9, cui_n (by decide), e8, cui_n (by decide), e7, cui_e]; exact f6 49 1 (by decide)
  have v2 : q10.1 1 2 = q3.1 49 2 := by rw [e10, cui_n (by decide), e9, cui_n (by decide), e8, cui_e, e7, cui_o (by decide)]; exact f6 49 2 (by decide)
  have v3 : q10.1 1 3 = q3.1 49 3 := by rw [e10, cui_n (by decide), e9, cui_e, e8, cui_o (by decide), e7, cui_o (by decide)]; exact f6 49 3 (by decide)
  have v6 : q10.1 1 6 = q3.1 49 6 := by rw [e10, cui_e, e9, cui_o (by decide), e8, cui_o (by decide), e7, cui_o (by decide)]; exact f6 49 6 (by decide)
  have h10 : aT 2 q10 = aT 50 q3 := by rw [e10, aT_c (by decide), e9, aT_c (by decide), e8, aT_c (by decide), e7, aT_c (by decide)]; exact h6
  have x10 : q10.2 = q3.2 := by rw [e10, e9, e8, e7]; exact u2
  clear e7 e8 e9 e10 f6 h6 u2 u3
  unfold zX6_copyFrom_s1_s49_48
  refine dA_fix (fun (a : dK × Int32) => aT 2 a.1 = aT 50 q3 ∧ (∀ j k : Nat, ¬ (1 ≤ j ∧ j ≤ 1 + 6) → a.1.1 j k = q3.1 j k) ∧ a.1.2 = q3.2 ∧ (a.1.1 1 1 = q3.1 49 1 ∧ a.1.1 1 2 = q3.1 49 2 ∧ a.1.1 1 3 = q3.1 49 3 ∧ a.1.1 1 6 = q3.1 49 6) ∧ ∃ i : Nat, i ≤ 6 ∧ Int32.toInt a.2 = (i : Int) ∧ ∀ b : Nat, b < i → a.1.1 5 b = q3.1 53 b ∧ a.1.1 6 b = q3.1 54 b) ?_ dF _ ⟨h10, f10, x10, ⟨v1, v2, v3, v6⟩, 0, by decide, d0, fun b hb => absurd hb (Nat.not_lt_zero b)⟩
  clear h10 f10 x10 v1 v2 v3 v6
  intro k48 hk48 a ha
  obtain ⟨qa, x2⟩ := a
  obtain ⟨h1, h2, h3, ⟨w1, w2, w3, w6⟩, i, hi, h4, h5⟩ := ha
  replace h1 : aT 2 qa = aT 50 q3 := h1
  replace h2 : ∀ j k : Nat, ¬ (1 ≤ j ∧ j ≤ 1 + 6) → qa.1 j k = q3.1 j k := h2
  replace h3 : qa.2 = q3.2 := h3
  replace w1 : qa.1 1 1 = q3.1 49 1 := w1
  replace w2 : qa.1 1 2 = q3.1 49 2 := w2
  replace w3 : qa.1 1 3 = q3.1 49 3 := w3
  replace w6 : qa.1 1 6 = q3.1 49 6 := w6
  replace h4 : Int32.toInt x2 = (i : Int) := h4
  replace h5 : ∀ b : Nat, b < i → qa.1 5 b = q3.1 53 b ∧ qa.1 6 b = q3.1 54 b := h5
  have n2 : Int32.toNatClampNeg x2 = i := by have n := cl_eq (i := x2) (by omega); omega
  show dAll (zX6_copyFrom_s1_s49_48b (fun q x2 => k48 (q, x2)) qa x2) _
  unfold zX6_copyFrom_s1_s49_48b
  rw [n2]
  refine dA_le (fun c => dA_L (fun q1 e1 => ?_)) (fun c => dA_G (fun _ => dA_L (fun v3 e3 => dA_G (fun _ => dA_L (fun q5 e5 => dA_G (fun _ => dA_L (fun v7 e7 => dA_G (fun _ => dA_L (fun q9 e9 => hk48 (q9, x2 + 1) ⟨?_, fun j k hj => ?_, ?_, ⟨?_, ?_, ?_, ?_⟩, i + 1, by omega, by show Int32.toInt (x2 + 1) = _; rw [ti_add h4 d1 (by omega) (by omega)]; omega, fun b hb => ⟨?_, ?_⟩⟩)))))))))
  · have ei : i = 6 := by omega
    subst ei
    have hB1 : aT 2 q1 = aT 50 q3 := by rw [e1, aT_c (by decide)]; exact h1
    have hB2 : ∀ j k : Nat, ¬ (1 ≤ j ∧ j ≤ 1 + 6) → q1.1 j k = q3.1 j k := fun j k hj => by rw [e1, cui_o (by omega)]; exact h2 j k hj
    have hB3 : q1.2 = q3.2 := by rw [e1]; exact h3
    have y1 : q1.1 1 1 = q3.1 49 1 := by rw [e1, cui_n (by decide)]; exact w1
    have y2 : q1.1 1 2 = q3.1 49 2 := by rw [e1, cui_n (by decide)]; exact w2
    have y3 : q1.1 1 3 = q3.1 49 3 := by rw [e1, cui_n (by decide)]; exact w3
    have y6 : q1.1 1 6 = q3.1 49 6 := by rw [e1, cui_n (by decide)]; exact w6
    have y8 : q1.1 1 8 = q3.1 49 8 := by rw [e1, cui_e]; exact h2 49 8 (by decide)
    have yA : ∀ b : Nat, b < 6 → q1.1 5 b = q3.1 53 b ∧ q1.1 6 b = q3.1 54 b := fun b hb => by rw [e1, cui_o (by decide), cui_o (by decide)]; exact h5 b hb
    clear e1 h1 h2 h3 h4 h5 w1 w2 w3 w6
    unfold zX6_copyFrom_s1_s49_94
    refine dA_fix (fun (a : dK × Int32) => aT 2 a.1 = aT 50 q3 ∧ (∀ j k : Nat, ¬ (1 ≤ j ∧ j ≤ 1 + 6) → a.1.1 j k = q3.1 j k) ∧ a.1.2 = q3.2 ∧ (a.1.1 1 1 = q3.1 49 1 ∧ a.1.1 1 2 = q3.1 49 2 ∧ a.1.1 1 3 = q3.1 49 3 ∧ a.1.1 1 6 = q3.1 49 6 ∧ a.1.1 1 8 = q3.1 49 8) ∧ (∀ b : Nat, b < 6 → a.1.1 5 b = q3.1 53 b ∧ a.1.1 6 b = q3.1 54 b) ∧ ∃ i : Nat, i ≤ 6 ∧ Int32.toInt a.2 = (i : Int) ∧ ∀ b : Nat, b < i → a.1.1 7 b = q3.1 55 b) ?_ dF _ ⟨hB1, hB2, hB3, ⟨y1, y2, y3, y6, y8⟩, yA, 0, by decide, d0, fun b hb => absurd hb (Nat.not_lt_zero b)⟩
    clear hB1 hB2 hB3 y1 y2 y3 y6 y8 yA
    intro k94 hk94 a hb
    obtain ⟨qb, x4⟩ := a
    obtain ⟨h1, h2, h3, ⟨w1, w2, w3, w6, w8⟩, hA, i, hi, h4, h5⟩ := hb
    replace h1 : aT 2 qb = aT 50 q3 := h1
    replace h2 : ∀ j k : Nat, ¬ (1 ≤ j ∧ j ≤ 1 + 6) → qb.1 j k = q3.1 j k := h2
    replace h3 : qb.2 = q3.2 := h3
    replace w1 : qb.1 1 1 = q3.1 49 1 := w1
    replace w2 : qb.1 1 2 = q3.1 49 2 := w2
    replace w3 : qb.1 1 3 = q3.1 49 3 := w3
    replace w6 : qb.1 1 6 = q3.1 49 6 := w6
    replace w8 : qb.1 1 8 = q3.1 49 8 := w8
    replace hA : ∀ b : Nat, b < 6 → qb.1 5 b = q3.1 53 b ∧ qb.1 6 b = q3.1 54 b := hA
    replace h4 : Int32.toInt x4 = (i : Int) := h4
    replace h5 : ∀ b : Nat, b < i → qb.1 7 b = q3.1 55 b := h5
    have n4 : Int32.toNatClampNeg x4 = i := by have n := cl_eq (i := x4) (by omega); omega
    show dAll (zX6_copyFrom_s1_s49_94b (fun q x2 => k94 (q, x2)) qb x4) _
    unfold zX6_copyFrom_s1_s49_94b
    rw [n4]
    have hstep : ∀ (v : Int32) (q6 : dK), q6 = cui qb 7 i v → v = qb.1 55 i → i < 6 → dAll (k94 (q6, x4 + 1)) (fun (o : dK) => CPF 1 49 q3 o) := by
      intro v q6 e6 ev hi6
      refine hk94 (q6, x4 + 1) ⟨?_, fun j k hj => ?_, ?_, ⟨?_, ?_, ?_, ?_, ?_⟩, fun b hb => ?_, i + 1, by omega, by show Int32.toInt (x4 + 1) = _; rw [ti_add h4 d1 (by omega) (by omega)]; omega, fun b hb => ?_⟩
      · show aT 2 q6 = _
        rw [e6, aT_c (by decide)]; exact h1
      · show q6.1 j k = _
        rw [e6, cui_o (by omega)]; exact h2 j k hj
      · show q6.2 = _
        rw [e6]; exact h3
      · show q6.1 1 1 = _
        rw [e6, cui_o (by decide)]; exact w1
      · show q6.1 1 2 = _
        rw [e6, cui_o (by decide)]; exact w2
      · show q6.1 1 3 = _
        rw [e6, cui_o (by decide)]; exact w3
      · show q6.1 1 6 = _
        rw [e6, cui_o (by decide)]; exact w6
      · show q6.1 1 8 = _
        rw [e6, cui_o (by decide)]; exact w8
      · show q6.1 5 b = _ ∧ q6.1 6 b = _
        rw [e6, cui_o (by decide), cui_o (by decide)]; exact hA b hb
      · show q6.1 7 b = _
        rw [e6]
        by_cases cb : b = i
        · rw [cb, cui_e, ev]; exact h2 55 i (by decide)
        · rw [cui_n cb]; exact h5 b (by omega)
    refine dA_le (fun c => dA_L (fun q1 e1 => dA_some ?_)) (fun c => dA_G (fun _ => dA_L (fun v3 e3 => dA_G (fun _ => dA_if (fun c0 => dA_L (fun q6 e6 => hstep 0 q6 e6 (by rw [← e3]; exact c0.symm) (by omega))) (fun _ => dA_G (fun _ => dA_L (fun q8 e8 => hstep v3 q8 e8 e3 (by omega))))))))
    have ei : i = 6 := by omega
    subst ei
    refine ⟨by rw [e1, aT_c (by decide)]; exact h1, fun k hk => ?_, fun i hi => ?_, fun j k hj => by rw [e1, cui_o (by omega)]; exact h2 j k hj, by rw [e1]; exact h3⟩
    · simp only [List.mem_cons, List.not_mem_nil, or_false] at hk
      rcases hk with e | e | e | e | e | e <;> subst e
      · rw [e1, cui_n (by decide)]; exact w1
      · rw [e1, cui_n (by decide)]; exact w2
      · rw [e1, cui_n (by decide)]; exact w3
      · rw [e1, cui_n (by decide)]; exact w6
      · rw [e1, cui_n (by decide)]; exact w8
      · rw [e1, cui_e]; exact h2 49 9 (by decide)
    · show q1.1 5 i = q3.1 53 i ∧ q1.1 6 i = q3.1 54 i ∧ q1.1 7 i = q3.1 55 i
      rw [e1, cui_o (by decide), cui_o (by decide), cui_o (by decide)]
      exact ⟨(hA i hi).1, (hA i hi).2, h5 i hi⟩
  · show aT 2 q9 = _
    rw [e9, aT_c (by decide), e5, aT_c (by decide)]; exact h1
  · show q9.1 j k = _
    rw [e9, cui_o (by omega), e5, cui_o (by omega)]; exact h2 j k hj
  · show q9.2 = _
    rw [e9]
    show q5.2 = _
    rw [e5]; exact h3
  · show q9.1 1 1 = _
    rw [e9, cui_o (by decide), e5, cui_o (by decide)]; exact w1
  · show q9.1 1 2 = _
    rw [e9, cui_o (by decide), e5, cui_o (by decide)]; exact w2
  · show q9.1 1 3 = _
    rw [e9, cui_o (by decide), e5, cui_o (by decide)]; exact w3
  · show q9.1 1 6 = _
    rw [e9, cui_o (by decide), e5, cui_o (by decide)]; exact w6
  · show q9.1 5 b = _
    rw [e9, cui_o (by decide), e5]
    by_cases cb : b = i
    · rw [cb, cui_e, e3]; exact h2 53 i (by decide)
    · rw [cui_n cb]; exact (h5 b (by omega)).1
  · show q9.1 6 b = _
    rw [e9]
    by_cases cb : b = i
    · rw [cb, cui_e, e7, e5, cui_o (by decide)]; exact h2 54 i (by decide)
    · rw [cui_n cb, e5, cui_o (by decide)]; exact (h5 b (by omega)).2

theorem c_copyFrom_s1_s56 (q : dK) (hT : TC q) : dAll (zX6_copyFrom_s1_s56 q) (fun (o : dK) => CPF 1 56 q o) := by
  have d0 : Int32.toInt 0 = 0 := by decide
  have d1 : Int32.toInt 1 = 1 := by decide
  have d6 : Int32.toInt 6 = 6 := by decide
  unfold zX6_copyFrom_s1_s56
  refine dA_B (dA_and (dA_of (ok2_X8_pack_s57 q hT)) (dA_of (ok_X8_pack_s57 q hT))) (fun r1 q3 z => ?_)
  obtain ⟨⟨z1, z2⟩, -, z3⟩ := z
  replace z1 : q3 = q := z1
  replace z2 : Int64.toInt r1 = pk (aT 57 q) := z2
  replace z3 : 0 ≤ Int64.toInt r1 := z3
  subst z1
  refine dA_V (dA_and (dA_of (ok2_X8_unpack_s2 q3 r1 z3)) (dA_and (c_unp2 q3 r1) (dA_of (ok_X8_unpack_s2 q3 r1 hT z3)))) (fun q6 h6 => dA_L (fun q7 e7 => dA_L (fun q8 e8 => dA_L (fun q9 e9 => dA_L (fun q10 e10 => ?_)))))
  obtain ⟨h6, u2, -, u3⟩ := h6
  rw [z2, unp_pk (tc_a57 hT)] at h6
  have f6 : ∀ j k : Nat, ¬ (1 ≤ j ∧ j ≤ 1 + 6) → q6.1 j k = q3.1 j k := fun j k hj => u3.1 j k (by simp only [List.mem_cons, List.not_mem_nil, or_false, not_or]; omega) (by simp only [List.mem_cons, List.not_mem_nil, or_false, not_or, Prod.mk.injEq]; omega)
  have f10 : ∀ j k : Nat, ¬ (1 ≤ j ∧ j ≤ 1 + 6) → q10.1 j k = q3.1 j k := fun j k hj => by rw [e10, cui_o (by omega), e9, cui_o (by omega), e8, cui_o (by omega), e7, cui_o (by omega)]; exact f6 j k hj
  have v1 : q10.1 1 1 = q3.1 56 1 := by rw [e10, cui_n (by decide), e9, cui_n (by decide), e8, cui_n (by decide), e7, cui_e]; exact f6 56 1 (by decide)
  have v2 : q10.1 1 2 = q3.1 56 2 := by rw [e10, cui_n (by decide), e9, cui_n (by decide), e8, cui_e, e7, cui_o (by decide)]; exact f6 56 2 (by decide)
  have v3 : q10.1 1 3 = q3.1 56 3 := by rw [e10, cui_n (by decide), e9, cui_e, e8, cui_o (by decide), e7, cui_o (by decide)]; exact f6 56 3 (by decide)
  have v6 : q10.1 1 6 = q3.1 56 6 := by rw [e10, cui_e, e9, cui_o (by decide), e8, cui_o (by decide), e7, cui_o (by decide)]; exact f6 56 6 (by decide)
  have h10 : aT 2 q10 = aT 57 q3 := by rw [e10, aT_c (by decide), e9, aT_c (by decide), e8, aT_c (by decide), e7, aT_c (by decide)]; exact h6
  have x10 : q10.2 = q3.2 := by rw [e10, e9, e8, e7]; exact u2
  clear e7 e8 e9 e10 f6 h6 u2 u3
  unfold zX6_copyFrom_s1_s56_48
  refine dA_fix (fun (a : dK × Int32) => aT 2 a.1 = aT 57 q3 ∧ (∀ j k : Nat, ¬ (1 ≤ j ∧ j ≤ 1 + 6) → a.1.1 j k = q3.1 j k) ∧ a.1.2 = q3.2 ∧ (a.1.1 1 1 = q3.1 56 1 ∧ a.1.1 1 2 = q3.1 56 2 ∧ a.1.1 1 3 = q3.1 56 3 ∧ a.1.1 1 6 = q3.1 56 6) ∧ ∃ i : Nat, i ≤ 6 ∧ Int32.toInt a.2 = (i : Int) ∧ ∀ b : Nat, b < i → a.1.1 5 b = q3.1 60 b ∧ a.1.1 6 b = q3.1 61 b) ?_ dF _ ⟨h10, f10, x10, ⟨v1, v2, v3, v6⟩, 0, by decide, d0, fun b hb => absurd hb (Nat.not_lt_zero b)⟩
  clear h10 f10 x10 v1 v2 v3 v6
  intro k48 hk48 a ha
  obtain ⟨qa, x2⟩ := a
  obtain ⟨h1, h2, h3, ⟨w1, w2, w3, w6⟩, i, hi, h4, h5⟩ := ha
  replace h1 : aT 2 qa = aT 57 q3 := h1
  replace h2 : ∀ j k : Nat, ¬ (1 ≤ j ∧ j ≤ 1 + 6) → qa.1 j k = q3.1 j k := h2
  replace h3 : qa.2 = q3.2 := h3
  replace w1 : qa.1 1 1 = q3.1 56 1 := w1
  replace w2 : qa.1 1 2 = q3.1 56 2 := w2
  replace w3 : qa.1 1 3 = q3.1 56 3 := w3
  replace w6 : qa.1 1 6 = q3.1 56 6 := w6
  replace h4 : Int32.toInt x2 = (i : Int) := h4
  replace h5 : ∀ b : Nat, b < i → qa.1 5 b = q3.1 60 b ∧ qa.1 6 b = q3.1 61 b := h5
  have n2 : Int32.toNatClampNeg x2 = i := by have n := cl_eq (i := x2) (by omega); omega
  show dAll (zX6_copyFrom_s1_s56_48b (fun q x2 => k48 (q, x2)) qa x2) _
  unfold zX6_copyFrom_s1_s56_48b
  rw [n2]
  refine dA_le (fun c => dA_L (fun q1 e1 => ?_)) (fun c => dA_G (fun _ => dA_L (fun v3 e3 => dA_G (fun _ => dA_L (fun q5 e5 => dA_G (fun _ => dA_L (fun v7 e7 => dA_G (fun _ => dA_L (fun q9 e9 => hk48 (q9, x2 + 1) ⟨?_, fun j k hj => ?_, ?_, ⟨?_, ?_, ?_, ?_⟩, i + 1, by omega, by show Int32.toInt (x2 + 1) = _; rw [ti_add h4 d1 (by omega) (by omega)]; omega, fun b hb => ⟨?_, ?_⟩⟩)))))))))
  · have ei : i = 6 := by omega
    subst ei
    have hB1 : aT 2 q1 = aT 57 q3 := by rw [e1, aT_c (by decide)]; exact h1
    have hB2 : ∀ j k : Nat, ¬ (1 ≤ j ∧ j ≤ 1 + 6) → q1.1 j k = q3.1 j k := fun j k hj => by rw [e1, cui_o (by omega)]; exact h2 j k hj
    have hB3 : q1.2 = q3.2 := by rw [e1]; exact h3
    have y1 : q1.1 1 1 = q3.1 56 1 := by rw [e1, cui_n (by decide)]; exact w1
    have y2 : q1.1 1 2 = q3.1 56 2 := by rw [e1, cui_n (by decide)]; exact w2
    have y3 : q1.1 1 3 = q3.1 56 3 := by rw [e1, cui_n (by decide)]; exact w3
    have y6 : q1.1 1 6 = q3.1 56 6 := by rw [e1, cui_n (by decide)]; exact w6
    have y8 : q1.1 1 8 = q3.1 56 8 := by rw [e1, cui_e]; exact h2 56 8 (by decide)
    have yA : ∀ b : Nat, b < 6 → q1.1 5 b = q3.1 60 b ∧ q1.1 6 b = q3.1 61 b := fun b hb => by rw [e1, cui_o (by decide), cui_o (by decide)]; exact h5 b hb
    clear e1 h1 h2 h3 h4 h5 w1 w2 w3 w6
    unfold zX6_copyFrom_s1_s56_94
    refine dA_fix (fun (a : dK × Int32) => aT 2 a.1 = aT 57 q3 ∧ (∀ j k : Nat, ¬ (1 ≤ j ∧ j ≤ 1 + 6) → a.1.1 j k = q3.1 j k) ∧ a.1.2 = q3.2 ∧ (a.1.1 1 1 = q3.1 56 1 ∧ a.1.1 1 2 = q3.1 56 2 ∧ a.1.1 1 3 = q3.1 56 3 ∧ a.1.1 1 6 = q3.1 56 6 ∧ a.1.1 1 8 = q3.1 56 8) ∧ (∀ b : Nat, b < 6 → a.1.1 5 b = q3.1 60 b ∧ a.1.1 6 b = q3.1 61 b) ∧ ∃ i : Nat, i ≤ 6 ∧ Int32.toInt a.2 = (i : Int) ∧ ∀ b : Nat, b < i → a.1.1 7 b = q3.1 62 b) ?_ dF _ ⟨hB1, hB2, hB3, ⟨y1, y2, y3, y6, y8⟩, yA, 0, by decide, d0, fun b hb => absurd hb (Nat.not_lt_zero b)⟩
    clear hB1 hB2 hB3 y1 y2 y3 y6 y8 yA
    intro k94 hk94 a hb
    obtain ⟨qb, x4⟩ := a
    obtain ⟨h1, h2, h3, ⟨w1, w2, w3, w6, w8⟩, hA, i, hi, h4, h5⟩ := hb
    replace h1 : aT 2 qb = aT 57 q3 := h1
    replace h2 : ∀ j k : Nat, ¬ (1 ≤ j ∧ j ≤ 1 + 6) → qb.1 j k = q3.1 j k := h2
    replace h3 : qb.2 = q3.2 := h3
    replace w1 : qb.1 1 1 = q3.1 56 1 := w1
    replace w2 : qb.1 1 2 = q3.1 56 2 := w2
    replace w3 : qb.1 1 3 = q3.1 56 3 := w3
    replace w6 : qb.1 1 6 = q3.1 56 6 := w6
    replace w8 : qb.1 1 8 = q3.1 56 8 := w8
    replace hA : ∀ b : Nat, b < 6 → qb.1 5 b = q3.1 60 b ∧ qb.1 6 b = q3.1 61 b := hA
    replace h4 : Int32.toInt x4 = (i : Int) := h4
    replace h5 : ∀ b : Nat, b < i → qb.1 7 b = q3.1 62 b := h5
    have n4 : Int32.toNatClampNeg x4 = i := by have n := cl_eq (i := x4) (by omega); omega
    show dAll (zX6_copyFrom_s1_s56_94b (fun q x2 => k94 (q, x2)) qb x4) _
    unfold zX6_copyFrom_s1_s56_94b
    rw [n4]
    have hstep : ∀ (v : Int32) (q6 : dK), q6 = cui qb 7 i v → v = qb.1 62 i → i < 6 → dAll (k94 (q6, x4 + 1)) (fun (o : dK) => CPF 1 56 q3 o) := by
      intro v q6 e6 ev hi6
      refine hk94 (q6, x4 + 1) ⟨?_, fun j k hj => ?_, ?_, ⟨?_, ?_, ?_, ?_, ?_⟩, fun b hb => ?_, i + 1, by omega, by show Int32.toInt (x4 + 1) = _; rw [ti_add h4 d1 (by omega) (by omega)]; omega, fun b hb => ?_⟩
      · show aT 2 q6 = _
        rw [e6, aT_c (by decide)]; exact h1
      · show q6.1 j k = _
        rw [e6, cui_o (by omega)]; exact h2 j k hj
      · show q6.2 = _
        rw [e6]; exact h3
      · show q6.1 1 1 = _
        rw [e6, cui_o (by decide)]; exact w1
      · show q6.1 1 2 = _
        rw [e6, cui_o (by decide)]; exact w2
      · show q6.1 1 3 = _
        rw [e6, cui_o (by decide)]; exact w3
      · show q6.1 1 6 = _
        rw [e6, cui_o (by decide)]; exact w6
      · show q6.1 1 8 = _
        rw [e6, cui_o (by decide)]; exact w8
      · show q6.1 5 b = _ ∧ q6.1 6 b = _
        rw [e6, cui_o (by decide), cui_o (by decide)]; exact hA b hb
      · show q6.1 7 b = _
        rw [e6]
        by_cases cb : b = i
        · rw [cb, cui_e, ev]; exact h2 62 i (by decide)
        · rw [cui_n cb]; exact h5 b (by omega)
    refine dA_le (fun c => dA_L (fun q1 e1 => dA_some ?_)) (fun c => dA_G (fun _ => dA_L (fun v3 e3 => dA_G (fun _ => dA_if (fun c0 => dA_L (fun q6 e6 => hstep 0 q6 e6 (by rw [← e3]; exact c0.symm) (by omega))) (fun _ => dA_G (fun _ => dA_L (fun q8 e8 => hstep v3 q8 e8 e3 (by omega))))))))
    have ei : i = 6 := by omega
    subst ei
    refine ⟨by rw [e1, aT_c (by decide)]; exact h1, fun k hk => ?_, fun i hi => ?_, fun j k hj => by rw [e1, cui_o (by omega)]; exact h2 j k hj, by rw [e1]; exact h3⟩
    · simp only [List.mem_cons, List.not_mem_nil, or_false] at hk
      rcases hk with e | e | e | e | e | e <;> subst e
      · rw [e1, cui_n (by decide)]; exact w1
      · rw [e1, cui_n (by decide)]; exact w2
      · rw [e1, cui_n (by decide)]; exact w3
      · rw [e1, cui_n (by decide)]; exact w6
      · rw [e1, cui_n (by decide)]; exact w8
      · rw [e1, cui_e]; exact h2 56 9 (by decide)
    · show q1.1 5 i = q3.1 60 i ∧ q1.1 6 i = q3.1 61 i ∧ q1.1 7 i = q3.1 62 i
      rw [e1, cui_o (by decide), cui_o (by decide), cui_o (by decide)]
      exact ⟨(hA i hi).1, (hA i hi).2, h5 i hi⟩
  · show aT 2 q9 = _
    rw [e9, aT_c (by decide), e5, aT_c (by decide)]; exact h1
  · show q9.1 j k = _
    rw [e9, cui_o (by omega), e5, cui_o (by omega)]; exact h2 j k hj
  · show q9.2 = _
    rw [e9]
    show q5.2 = _
    rw [e5]; exact h3
  · show q9.1 1 1 = _
    rw [e9, cui_o (by decide), e5, cui_o (by decide)]; exact w1
  · show q9.1 1 2 = _
    rw [e9, cui_o (by decide), e5, cui_o (by decide)]; exact w2
  · show q9.1 1 3 = _
    rw [e9, cui_o (by decide), e5, cui_o (by decide)]; exact w3
  · show q9.1 1 6 = _
    rw [e9, cui_o (by decide), e5, cui_o (by decide)]; exact w6
  · show q9.1 5 b = _
    rw [e9, cui_o (by decide), e5]
    by_cases cb : b = i
    · rw [cb, cui_e, e3]; exact h2 60 i (by decide)
    · rw [cui_n cb]; exact (h5 b (by omega)).1
  · show q9.1 6 b = _
    rw [e9]
    by_cases cb : b = i
    · rw [cb, cui_e, e7, e5, cui_o (by decide)]; exact h2 61 i (by decide)
    · rw [cui_n cb, e5, cui_o (by decide)]; exact (h5 b (by omega)).2

