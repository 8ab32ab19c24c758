theorem dm_goodOr (q : dS) (p1 : Int32) {N : Int} {P : Int → Prop} (h : HM q N P) : dAll (zX10_goodOr q p1) (fun o => HM o.2 N P) := dA_mono (lm_zX10_goodOr q q p1 fm_rf) (fun _ z => hm_fm z h)
theorem dm_lies (p1 p2 p3 : Int32) : dAll (zX10_lies p1 p2 p3) (fun (o : Int32) => (Int32.toInt o = 1 ∧ Int32.toInt p2 ≤ Int32.toInt p1 ∧ Int32.toInt p1 ≤ Int32.toInt p3) ∨ (Int32.toInt o = 0 ∧ (Int32.toInt p1 < Int32.toInt p2 ∨ Int32.toInt p3 < Int32.toInt p1))) := dA_of (ok_lies p1 p2 p3)
theorem dm_canTurn (q : dS) (p1 : Int32) {N : Int} {P : Int → Prop} (h : HM q N P) : dAll (zX10_canTurn q p1) (fun o => Fm q o.2 ∧ (Int32.toInt o.1 = 0 ∨ Int32.toInt p1 ≤ N)) := by
  refine dA_and (lm_zX10_canTurn q q p1 fm_rf) ?_
  have hn : Int32.toInt (q.1 2 29) = N := h.1.1
  unfold zX10_canTurn zX10_size
  refine dA_B (R := fun o => o = (q.1 2 29, q)) (dA_some rfl) (fun r1 q3 z => ?_)
  have z1 : r1 = q.1 2 29 := congrArg Prod.fst z
  subst z1
  refine dA_le (fun c => ?_) (fun _ => dA_some (Or.inl (show Int32.toInt 0 = 0 by decide)))
  intro o _
  exact Or.inr (by omega)
theorem dm_turnsKept (q : dS) (p1 : Int32) {N : Int} {P : Int → Prop} (h : HM q N P) : dAll (zX10_turnsKept q p1) (fun o => HM o.2 N P) := by
  have d0 : Int32.toInt 0 = 0 := by decide
  have d1 : Int32.toInt 1 = 1 := by decide
  unfold zX10_turnsKept
  refine dA_V (dm_lies p1 1 6) (fun r1 z => dA_eq (fun _ _ => dA_some h) (fun _ c => ?_))
  rw [d1] at z
  refine dA_B (dm_canTurn q p1 h) (fun r3 q5 z5 => ?_)
  obtain ⟨f5, g5⟩ := z5
  replace f5 : Fm q q5 := f5
  replace g5 : Int32.toInt r3 = 0 ∨ Int32.toInt p1 ≤ N := g5
  have h5 := hm_fm f5 h
  refine dA_eq (fun _ _ => dA_some h5) (fun _ c5 => ?_)
  refine dA_V (dm_keeps q5 0 h5) (fun q8 z8 => dA_B (dm_turns q8 p1 z8.1 (by omega) (by omega)) (fun r9 q11 h11 => dA_some h11))
theorem dm_rightsKept (q : dS) (p1 : Int32) {N : Int} {P : Int → Prop} (h : HM q N P) : dAll (zX10_rightsKept q p1) (fun o => HM o.2 N P) := by
  have d0 : Int32.toInt 0 = 0 := by decide
  have d5 : Int32.toInt 5 = 5 := by decide
  unfold zX10_rightsKept
  refine dA_V (dm_lies p1 0 5) (fun r1 z => dA_eq (fun _ _ => dA_some h) (fun _ c => ?_))
  rw [d0, d5] at z
  refine dA_B (lm_zX10_isPlace q q p1 fm_rf) (fun r3 q5 f5 => dA_if (fun _ => dA_some (hm_fm f5 h)) (fun _ => ?_))
  refine dA_V (dm_keeps q5 1 (hm_fm f5 h)) (fun q8 z8 => ?_)
  have t1 : Int32.toInt (6 + p1) = 6 + p1.toInt := ti_add (by decide) rfl (by omega) (by omega)
  have n1 := cl_eq (i := 6 + p1) (by omega)
  refine dA_G (fun _ => dA_L (fun v10 _ => dA_G (fun _ => dA_L (fun q12 e12 => dA_G (fun _ => dA_L (fun v14 _ => dA_some ?_))))))
  show HM q12 N P
  rw [e12]; exact hm_w (by omega) z8.1
theorem dm_swapsKept (q : dS) (p1 : Int32) {N : Int} {P : Int → Prop} (h : HM q N P) : dAll (zX10_swapsKept q p1) (fun o => HM o.2 N P) := by
  have d0 : Int32.toInt 0 = 0 := by decide
  have d1 : Int32.toInt 1 = 1 := by decide
  have d4 : Int32.toInt 4 = 4 := by decide
  have hn : Int32.toInt (q.1 2 29) = N := h.1.1
  unfold zX10_swapsKept
  refine dA_V (dm_lies p1 0 4) (fun r1 z => dA_eq (fun _ _ => dA_some h) (fun _ c => ?_))
  rw [d0, d4] at z
  have t1 : Int32.toInt (p1 + 1) = p1.toInt + 1 := ti_add rfl d1 (by omega) (by omega)
  have hp : dAll (zX10_isPlace q (p1 + 1)) (fun o => Fm q o.2 ∧ (Int32.toInt o.1 = 0 ∨ Int32.toInt p1 + 1 < N)) := by
    refine dA_and (lm_zX10_isPlace q q _ fm_rf) ?_
    unfold zX10_isPlace zX10_size
    refine dA_B (R := fun o => o = (q.1 2 29, q)) (dA_some rfl) (fun r1 q3 z => ?_)
    have z1 : r1 = q.1 2 29 := congrArg Prod.fst z
    subst z1
    have h3 := h.2.1
    have h4 := h.2.2.1
    have tm : Int32.toInt (q.1 2 29 - 1) = N - 1 := ti_sub hn d1 (by omega) (by omega)
    refine dA_V (dm_lies (p1 + 1) 0 (q.1 2 29 - 1)) (fun r4 z4 => dA_G (fun _ => dA_some ?_))
    rw [tm] at z4
    show Int32.toInt r4 = 0 ∨ Int32.toInt p1 + 1 < N
    omega
  refine dA_B hp (fun r3 q5 z5 => ?_)
  obtain ⟨f5, g5⟩ := z5
  replace f5 : Fm q q5 := f5
  replace g5 : Int32.toInt r3 = 0 ∨ Int32.toInt p1 + 1 < N := g5
  refine dA_eq (fun _ _ => dA_some (hm_fm f5 h)) (fun _ c5 => ?_)
  refine dA_V (dm_keeps q5 2 (hm_fm f5 h)) (fun q8 z8 => ?_)
  refine dA_V (dm_exchanges q8 p1 (p1 + 1) z8.1 (by omega) (by omega) (by omega) (by omega)) (fun q11 h11 => dA_G (fun _ => dA_L (fun v13 _ => dA_some h11)))
theorem dm_passesKept (q : dS) {N : Int} {P : Int → Prop} (h : HM q N P) : dAll (zX10_passesKept q) (fun o => HM o.2 N P) := by
  unfold zX10_passesKept
  refine dA_if (fun _ => dA_some h) (fun _ => dA_V (dm_keeps q 3 h) (fun q3 z3 => dA_B (dm_yearPasses q3 z3.1) (fun r4 q6 h6 => dA_some h6)))
theorem dm_turn (q : dS) (p1 : Int32) {N : Int} {P : Int → Prop} (h : HM q N P) : dAll (zX10_turn q p1) (fun o => HM o.2 N P) := by
  unfold zX10_turn
  exact dA_B (dm_turnsKept q p1 h) (fun r1 q3 h3 => dA_B (dm_goodOr q3 r1 h3) (fun r4 q6 h6 => dA_some h6))
theorem dm_right (q : dS) (p1 : Int32) {N : Int} {P : Int → Prop} (h : HM q N P) : dAll (zX10_right q p1) (fun o => HM o.2 N P) := by
  unfold zX10_right
  exact dA_B (dm_rightsKept q p1 h) (fun r1 q3 h3 => dA_B (dm_goodOr q3 r1 h3) (fun r4 q6 h6 => dA_some h6))
theorem dm_swap (q : dS) (p1 : Int32) {N : Int} {P : Int → Prop} (h : HM q N P) : dAll (zX10_swap q p1) (fun o => HM o.2 N P) := by
  unfold zX10_swap
  exact dA_B (dm_swapsKept q p1 h) (fun r1 q3 h3 => dA_B (dm_goodOr q3 r1 h3) (fun r4 q6 h6 => dA_some h6))
theorem dm_pass (q : dS) {N : Int} {P : Int → Prop} (h : HM q N P) : dAll (zX10_pass q) (fun o => HM o.2 N P) := by
  unfold zX10_pass
  exact dA_B (dm_passesKept q h) (fun r1 q3 h3 => dA_B (dm_goodOr q3 r1 h3) (fun r4 q6 h6 => dA_some h6))
theorem dm_undo (q : dS) {N : Int} {P : Int → Prop} (h : HM q N P) : dAll (zX10_undo q) (fun o => HM o.2 N P) := by
  have d0 : Int32.toInt 0 = 0 := by decide
  have d1 : Int32.toInt 1 = 1 := by decide
  have d14 : Int32.toInt 14 = 14 := by decide
  have d15 : Int32.toInt 15 = 15 := by decide
  have h' := h
  obtain ⟨h1, h2, h3, h4, h5, h6⟩ := h
  unfold zX10_undo
  refine dA_eq (fun _ _ => dA_B (lm_zX10_refuses q q _ fm_rf) (fun r2 q4 f4 => dA_some (hm_fm f4 h'))) (fun _ c => dA_L (fun q1 e1 => ?_))
  have tu : Int32.toInt (q.1 0 32 - 1) = Int32.toInt (q.1 0 32) - 1 := ti_sub rfl d1 (by omega) (by omega)
  have w1 : q1.1 0 32 = q.1 0 32 - 1 := by rw [e1, dui_e]
  have r1 : ∀ j : Nat, ¬ j = 0 → q1.1 j = q.1 j := fun j hj => by rw [e1]; exact dui_o hj
  have nu := cl_eq (i := q1.1 0 32) (by rw [w1]; omega)
  obtain ⟨u, eu⟩ : ∃ u : Nat, Int32.toNatClampNeg (q1.1 0 32) = u := ⟨_, rfl⟩
  rw [eu] at nu
  have tx : Int32.toInt (15 * (q1.1 0 32)) = 15 * (u : Int) := ti_mul d15 nu.symm (by rw [w1] at nu; omega) (by rw [w1] at nu; omega)
  rw [w1, tu] at nu
  obtain ⟨x0, ex0⟩ : ∃ x : Int32, 15 * (q1.1 0 32) = x := ⟨_, rfl⟩
  rw [ex0] at tx ⊢
  unfold zX10_undo_34
  refine dA_fix (fun (a : dS × Int32 × Int32) => a.1.1 0 = q1.1 0 ∧ a.1.1 14 = q.1 14 ∧ a.2.1 = x0 ∧ 0 ≤ a.2.2.toInt ∧ a.2.2.toInt ≤ 14 ∧ (∀ k : Nat, (k : Int) < a.2.2.toInt → a.1.1 2 k = q.1 14 (15 * u + k)) ∧ (∀ k : Nat, 14 ≤ k → a.1.1 2 k = q.1 2 k)) ?_ dF _ ⟨rfl, r1 14 (by decide), rfl, by show 0 ≤ Int32.toInt 0; omega, by show Int32.toInt 0 ≤ 14; omega, fun k hk => absurd hk (by show ¬ (k : Int) < Int32.toInt 0; omega), fun k _ => by show q1.1 2 k = _; rw [r1 2 (by decide)]⟩
  intro k34 hk34 a ha
  obtain ⟨qb, x1, x2⟩ := a
  obtain ⟨b0, b14, b1, b2, b3, b4, b5⟩ := ha
  replace b0 : qb.1 0 = q1.1 0 := b0
  replace b14 : qb.1 14 = q.1 14 := b14
  replace b1 : x0 = x1 := Eq.symm b1
  replace b2 : 0 ≤ x2.toInt := b2
  replace b3 : x2.toInt ≤ 14 := b3
  replace b4 : ∀ k : Nat, (k : Int) < x2.toInt → qb.1 2 k = q.1 14 (15 * u + k) := b4
  replace b5 : ∀ k : Nat, 14 ≤ k → qb.1 2 k = q.1 2 k := b5
  subst b1
  show dAll (zX10_undo_34b (fun q x1 x2 => k34 (q, x1, x2)) qb x0 x2) _
  unfold zX10_undo_34b
  refine dA_le (fun c2 => ?_) (fun c2 => ?_)
  · have hb : HM qb N P := by
      have e32 : qb.1 0 32 = q.1 0 32 - 1 := by rw [b0]; exact w1
      refine ⟨RS_e (n := N) (f := rkM q 14 (15 * u)) (h6 u (by omega)) ?_ (fun i hi => ?_), h2, h3, by rw [e32]; omega, by rw [e32]; omega, fun i hi => ?_⟩
      · rw [b5 29 (by decide)]; exact h1.1
      · show Int32.toInt (qb.1 2 (0 + i)) = Int32.toInt (q.1 14 (15 * u + i))
        rw [Nat.zero_add, b4 i (by omega)]
      · rw [e32] at hi
        unfold rkM
        rw [b14]; exact h6 i (by omega)
    refine dA_G (fun _ => dA_L (fun v2 _ => dA_B (lm_zX10_good qb qb _ fm_rf) (fun r3 q5 f5 => dA_some (hm_fm f5 hb))))
  · have n2 := cl_eq b2
    have tk : Int32.toInt (x0 + x2) = 15 * (u : Int) + x2.toInt := ti_add tx rfl (by omega) (by omega)
    have nk := cl_eq (i := x0 + x2) (by omega)
    have t4 : Int32.toInt (x2 + 1) = x2.toInt + 1 := ti_add rfl d1 (by omega) (by omega)
    refine dA_G (fun _ => dA_L (fun v7 e7 => dA_G (fun _ => dA_L (fun q9 e9 => hk34 (q9, x0, x2 + 1) ⟨?_, ?_, rfl, by show 0 ≤ Int32.toInt (x2 + 1); omega, by show Int32.toInt (x2 + 1) ≤ 14; omega, fun k hk => ?_, fun k hk => ?_⟩))))
    · show q9.1 0 = _; rw [e9, dui_o (by decide)]; exact b0
    · show q9.1 14 = _; rw [e9, dui_o (by decide)]; exact b14
    · replace hk : (k : Int) < Int32.toInt (x2 + 1) := hk
      show q9.1 2 k = _
      rw [e9]
      by_cases ck : (k : Int) < x2.toInt
      · rw [dui_n (by omega)]; exact b4 k ck
      · rw [show k = Int32.toNatClampNeg x2 by omega, dui_e, e7, b14, show Int32.toNatClampNeg (x0 + x2) = 15 * u + Int32.toNatClampNeg x2 by omega]
    · show q9.1 2 k = _
      rw [e9, dui_n (by omega)]; exact b5 k hk
/-- what lies aside: the ranks, from s on -/
theorem dm_laysAside (q : dS) (p1 : Int32) (s : Nat) (hs : (s : Int) = 14 * p1.toInt) (h0 : 0 ≤ p1.toInt) (h1 : p1.toInt ≤ 1) : dAll (zX10_laysAside q p1) (fun o => (∀ j : Nat, ¬ j = 5 → o.1 j = q.1 j) ∧ ∀ k : Nat, k < 14 → o.1 5 (s + k) = q.1 2 k) := by
  have d0 : Int32.toInt 0 = 0 := by decide
  have d1 : Int32.toInt 1 = 1 := by decide
  have d14 : Int32.toInt 14 = 14 := by decide
  have tm : Int32.toInt (14 * p1) = 14 * p1.toInt := ti_mul d14 rfl (by omega) (by omega)
  unfold zX10_laysAside zX10_laysAside_2
  refine dA_fix (fun (a : dS × Int32 × Int32) => (∀ j : Nat, ¬ j = 5 → a.1.1 j = q.1 j) ∧ a.2.1 = p1 ∧ 0 ≤ a.2.2.toInt ∧ a.2.2.toInt ≤ 14 ∧ ∀ k : Nat, (k : Int) < a.2.2.toInt → a.1.1 5 (s + k) = q.1 2 k) ?_ dF _ ⟨fun _ _ => rfl, rfl, by show 0 ≤ Int32.toInt 0; omega, by show Int32.toInt 0 ≤ 14; omega, fun k hk => absurd hk (by show ¬ (k : Int) < Int32.toInt 0; omega)⟩
  intro k2 hk2 a ha
  obtain ⟨qb, x1, x2⟩ := a
  obtain ⟨b0, b1, b2, b3, b4⟩ := ha
  replace b0 : ∀ j : Nat, ¬ j = 5 → qb.1 j = q.1 j := b0
  replace b1 : p1 = x1 := Eq.symm b1
  replace b2 : 0 ≤ x2.toInt := b2
  replace b3 : x2.toInt ≤ 14 := b3
  replace b4 : ∀ k : Nat, (k : Int) < x2.toInt → qb.1 5 (s + k) = q.1 2 k := b4
  subst b1
  show dAll (zX10_laysAside_2b (fun q x1 x2 => k2 (q, x1, x2)) qb p1 x2) _
  unfold zX10_laysAside_2b
  refine dA_le (fun c => dA_some ⟨b0, fun k hk => b4 k (by omega)⟩) (fun c => ?_)
  have n2 := cl_eq b2
  have tk : Int32.toInt (14 * p1 + x2) = 14 * p1.toInt + x2.toInt := ti_add tm rfl (by omega) (by omega)
  have nk := cl_eq (i := 14 * p1 + x2) (by omega)
  have t4 : Int32.toInt (x2 + 1) = x2.toInt + 1 := ti_add rfl d1 (by omega) (by omega)
  refine dA_G (fun _ => dA_L (fun v2 e2 => dA_G (fun _ => dA_L (fun q4 e4 => hk2 (q4, p1, x2 + 1) ⟨fun j hj => ?_, rfl, by show 0 ≤ Int32.toInt (x2 + 1); omega, by show Int32.toInt (x2 + 1) ≤ 14; omega, fun k hk => ?_⟩))))
  · show q4.1 j = _; rw [e4, dui_o hj]; exact b0 j hj
  · replace hk : (k : Int) < Int32.toInt (x2 + 1) := hk
    show q4.1 5 (s + k) = _
    rw [e4]
    by_cases ck : (k : Int) < x2.toInt
    · rw [dui_n (by omega)]; exact b4 k ck
    · rw [show s + k = Int32.toNatClampNeg (14 * p1 + x2) by omega, dui_e, e2, b0 2 (by decide), show k = Int32.toNatClampNeg x2 by omega]
theorem dm_takesBack (q : dS) (p1 : Int32) (s : Nat) (hs : (s : Int) = 14 * p1.toInt) (h0 : 0 ≤ p1.toInt) (h1 : p1.toInt ≤ 1) : dAll (zX10_takesBack q p1) (fun o => (∀ j : Nat, ¬ j = 2 → o.1 j = q.1 j) ∧ (∀ k : Nat, k < 14 → o.1 2 k = q.1 5 (s + k)) ∧ ∀ k : Nat, 14 ≤ k → o.1 2 k = q.1 2 k) := by
  have d0 : Int32.toInt 0 = 0 := by decide
  have d1 : Int32.toInt 1 = 1 := by decide
  have d14 : Int32.toInt 14 = 14 := by decide
  have tm : Int32.toInt (14 * p1) = 14 * p1.toInt := ti_mul d14 rfl (by omega) (by omega)
  unfold zX10_takesBack zX10_takesBack_2
  refine dA_fix (fun (a : dS × Int32 × Int32) => (∀ j : Nat, ¬ j = 2 → a.1.1 j = q.1 j) ∧ a.2.1 = p1 ∧ 0 ≤ a.2.2.toInt ∧ a.2.2.toInt ≤ 14 ∧ (∀ k : Nat, (k : Int) < a.2.2.toInt → a.1.1 2 k = q.1 5 (s + k)) ∧ ∀ k : Nat, 14 ≤ k → a.1.1 2 k = q.1 2 k) ?_ dF _ ⟨fun _ _ => rfl, rfl, by show 0 ≤ Int32.toInt 0; omega, by show Int32.toInt 0 ≤ 14; omega, fun k hk => absurd hk (by show ¬ (k : Int) < Int32.toInt 0; omega), fun _ _ => rfl⟩
  intro k2 hk2 a ha
  obtain ⟨qb, x1, x2⟩ := a
  obtain ⟨b0, b1, b2, b3, b4, b5⟩ := ha
  replace b0 : ∀ j : Nat, ¬ j = 2 → qb.1 j = q.1 j := b0
  replace b1 : p1 = x1 := Eq.symm b1
  replace b2 : 0 ≤ x2.toInt := b2
  replace b3 : x2.toInt ≤ 14 := b3
  replace b4 : ∀ k : Nat, (k : Int) < x2.toInt → qb.1 2 k = q.1 5 (s + k) := b4
  replace b5 : ∀ k : Nat, 14 ≤ k → qb.1 2 k = q.1 2 k := b5
  subst b1
  show dAll (zX10_takesBack_2b (fun q x1 x2 => k2 (q, x1, x2)) qb p1 x2) _
  unfold zX10_takesBack_2b
  refine dA_le (fun c => dA_some ⟨b0, fun k hk => b4 k (by omega), b5⟩) (fun c => ?_)
  have n2 := cl_eq b2
  have tk : Int32.toInt (14 * p1 + x2) = 14 * p1.toInt + x2.toInt := ti_add tm rfl (by omega) (by omega)
  have nk := cl_eq (i := 14 * p1 + x2) (by omega)
  have t4 : Int32.toInt (x2 + 1) = x2.toInt + 1 := ti_add rfl d1 (by omega) (by omega)
  refine dA_G (fun _ => dA_L (fun v2 e2 => dA_G (fun _ => dA_L (fun q4 e4 => hk2 (q4, p1, x2 + 1) ⟨fun j hj => ?_, rfl, by show 0 ≤ Int32.toInt (x2 + 1); omega, by show Int32.toInt (x2 + 1) ≤ 14; omega, fun k hk => ?_, fun k hk => ?_⟩))))
  · show q4.1 j = _; rw [e4, dui_o hj]; exact b0 j hj
  · replace hk : (k : Int) < Int32.toInt (x2 + 1) := hk
    show q4.1 2 k = _
    rw [e4]
    by_cases ck : (k : Int) < x2.toInt
    · rw [dui_n (by omega)]; exact b4 k ck
    · rw [show k = Int32.toNatClampNeg x2 by omega, dui_e, e2, b0 5 (by decide), show Int32.toNatClampNeg (14 * p1 + x2) = s + Int32.toNatClampNeg x2 by omega]
  · show q4.1 2 k = _
    rw [e4, dui_n (by omega)]; exact b5 k hk
