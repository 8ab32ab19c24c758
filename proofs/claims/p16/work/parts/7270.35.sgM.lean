theorem dm_lays (q : dS) (p1 : Int32) (h0 : 0 ≤ p1.toInt) (h1 : p1.toInt ≤ 6) : dAll (zX10_lays q p1) (fun o => (∀ j : Nat, ¬ j = 2 → o.1 j = q.1 j) ∧ ∀ i : Nat, i < 33 → o.1 2 i = q.1 2 i) := by
  have d0 : Int32.toInt 0 = 0 := by decide
  have d1 : Int32.toInt 1 = 1 := by decide
  have d33 : Int32.toInt 33 = 33 := by decide
  have d40 : Int32.toInt 40 = 40 := by decide
  have d28 : Int32.toInt 2840 = 2840 := by decide
  have d400 : Int32.toInt 400 = 400 := by decide
  have t33 : Int32.toInt (33 + p1) = 33 + p1.toInt := ti_add d33 rfl (by omega) (by omega)
  have n33 := cl_eq (i := 33 + p1) (by omega)
  have tm : Int32.toInt (400 * p1) = 400 * p1.toInt := ti_mul d400 rfl (by omega) (by omega)
  have ta : Int32.toInt (40 + 400 * p1) = 40 + 400 * p1.toInt := ti_add d40 tm (by omega) (by omega)
  have tb : Int32.toInt (2840 + 400 * p1) = 2840 + 400 * p1.toInt := ti_add d28 tm (by omega) (by omega)
  unfold zX10_lays
  refine dA_G (fun _ => dA_L (fun q2 e2 => ?_))
  unfold zX10_lays_15
  refine dA_fix (fun (a : dS × Int32 × Int32) => (∀ j : Nat, ¬ j = 2 → a.1.1 j = q.1 j) ∧ (∀ i : Nat, i < 33 → a.1.1 2 i = q.1 2 i) ∧ a.2.1 = p1) ?_ dF _ ⟨fun j hj => by show q2.1 j = _; rw [e2, dui_o hj], fun i hi => by show q2.1 2 i = _; rw [e2, dui_n (by omega)], rfl⟩
  intro k15 hk15 a ha
  obtain ⟨qb, x1, x2⟩ := a
  obtain ⟨b0, b1, b2⟩ := ha
  replace b0 : ∀ j : Nat, ¬ j = 2 → qb.1 j = q.1 j := b0
  replace b1 : ∀ i : Nat, i < 33 → qb.1 2 i = q.1 2 i := b1
  replace b2 : p1 = x1 := Eq.symm b2
  subst b2
  show dAll (zX10_lays_15b (fun q x1 x2 => k15 (q, x1, x2)) qb p1 x2) _
  unfold zX10_lays_15b
  refine dA_if (fun _ => dA_some ⟨b0, b1⟩) (fun _ => dA_G (fun hg => ?_))
  have g := dg_of hg
  have u1 : Int32.toInt (40 + 400 * p1 + x2) = 40 + 400 * p1.toInt + x2.toInt := ti_add ta rfl (by omega) (by omega)
  have u2 : Int32.toInt (2840 + 400 * p1 + x2) = 2840 + 400 * p1.toInt + x2.toInt := ti_add tb rfl (by omega) (by omega)
  have m1 := cl_eq (i := 40 + 400 * p1 + x2) (by omega)
  have m2 := cl_eq (i := 2840 + 400 * p1 + x2) (by omega)
  refine dA_L (fun v2 _ => dA_G (fun _ => dA_L (fun q4 e4 => dA_G (fun _ => dA_L (fun v6 _ => dA_G (fun _ => dA_L (fun q8 e8 => hk15 (q8, p1, x2 + 1) ⟨fun j hj => ?_, fun i hi => ?_, rfl⟩)))))))
  · show q8.1 j = _; rw [e8, dui_o hj, e4, dui_o hj]; exact b0 j hj
  · show q8.1 2 i = _; rw [e8, dui_n (by omega), e4, dui_n (by omega)]; exact b1 i hi
theorem hm_33 {q o : dS} {N : Int} {P : Int → Prop} (h : HM q N P) (h0 : o.1 0 32 = q.1 0 32) (h14 : o.1 14 = q.1 14) (h2 : ∀ i : Nat, i < 30 → o.1 2 i = q.1 2 i) : HM o N P := by
  obtain ⟨a1, a2, a3, a4, a5, a6⟩ := h
  have hn := a1.1
  unfold HM
  rw [h0, h2 29 (by decide)]
  refine ⟨RS_e a1 rfl (fun i hi => ?_), a2, a3, a4, a5, fun i hi => ?_⟩
  · show Int32.toInt (o.1 2 (0 + i)) = Int32.toInt (q.1 2 (0 + i))
    rw [h2 _ (by omega)]
  · unfold rkM
    rw [h14]; exact a6 i hi
theorem dm_law (q : dS) (hT : TS q) {N : Int} {P : Int → Prop} (h : HM q N P) : dAll (zX10_law q) (fun o => HM o.2 N P) := by
  have f31 : 0 ≤ Int32.toInt (q.1 2 31) ∧ Int32.toInt (q.1 2 31) ≤ 6 := hT.1 2 31
  unfold zX10_law
  refine dA_if (fun _ => dA_L (fun q14 e14 => dA_B (lm_zX10_refuses q14 q14 _ fm_rf) (fun r15 q17 f => dA_some (hm_fm f (by rw [e14]; exact hm_0 (by decide) h))))) (fun _ => ?_)
  refine dA_B (lm_zX10_readsAs q q 0 fm_rf) (fun r1 q3 f3 => dA_if (fun _ => dA_B (lm_zX10_refuses q3 q3 _ fm_rf) (fun r11 q13 f => dA_some (hm_fm f (hm_fm f3 h)))) (fun _ => ?_))
  have w31 : q3.1 2 31 = q.1 2 31 := by rw [f3.1]
  refine dA_V (dm_lays q3 (q3.1 2 31) (by rw [w31]; exact f31.1) (by rw [w31]; exact f31.2)) (fun q6 z6 => dA_L (fun q7 e7 => ?_))
  obtain ⟨z0, z1⟩ := z6
  have h6 : HM q6 N P := hm_33 (hm_fm f3 h) (by rw [z0 0 (by decide)]) (z0 14 (by decide)) (fun i hi => z1 i (by omega))
  exact dA_B (lm_zX10_good q7 q7 _ fm_rf) (fun r8 q10 f => dA_some (hm_fm f (by rw [e7]; exact hm_w (by decide) h6)))
theorem dm_terms (q : dS) (p1 p2 : Int32) {N : Int} {P : Int → Prop} (h : HM q N P) : dAll (zX10_terms q p1 p2) (fun o => HM o.2 N P) := by
  unfold zX10_terms
  refine dA_V dA_tr (fun r1 _ => dA_if (fun _ => dA_B (lm_zX10_refuses q q _ fm_rf) (fun r14 q16 f => dA_some (hm_fm f h))) (fun _ => ?_))
  refine dA_V dA_tr (fun r3 _ => dA_G (fun _ => dA_L (fun v6 _ => dA_V (dA_of (ok_termAt p1)) (fun r7 z => dA_G (fun _ => dA_L (fun q10 e10 => ?_))))))
  replace z : (Int32.toInt p1 = 0 ∧ Int32.toInt r7 = 13) ∨ (Int32.toInt p1 = 1 ∧ Int32.toInt r7 = 26) ∨ (Int32.toInt p1 = 2 ∧ Int32.toInt r7 = 27) ∨ (¬ Int32.toInt p1 = 0 ∧ ¬ Int32.toInt p1 = 1 ∧ ¬ Int32.toInt p1 = 2 ∧ Int32.toInt r7 = 28) := z
  have n := cl_eq (i := r7) (by omega)
  have h10 : HM q10 N P := by rw [e10]; exact hm_w (by omega) h
  exact dA_B (dm_settled h10.1 h10.2.1 h10.2.2.1) (fun r11 q13 z => dA_some z.2.1)
theorem dm_force (q : dS) (p1 : Int32) {N : Int} {P : Int → Prop} (h : HM q N P) : dAll (zX10_force q p1) (fun o => HM o.2 N P) := by
  unfold zX10_force
  refine dA_B (lm_zX10_isLaw q q _ fm_rf) (fun r1 q3 f3 => dA_if (fun _ => dA_B (lm_zX10_refuses q3 q3 _ fm_rf) (fun r8 q10 f => dA_some (hm_fm f (hm_fm f3 h)))) (fun _ => dA_L (fun q4 e4 => ?_)))
  exact dA_B (lm_zX10_good q4 q4 _ fm_rf) (fun r5 q7 f => dA_some (hm_fm f (by rw [e4]; exact hm_w (by decide) (hm_fm f3 h))))
theorem dm_seen (q : dS) (p1 p2 : Int32) (hT : TS q) {N : Int} {P : Int → Prop} (h : HM q N P) : dAll (zX10_seen q p1 p2) (fun o => HM o.2 N P) := by
  have f30 : 0 ≤ Int32.toInt (q.1 2 30) ∧ Int32.toInt (q.1 2 30) ≤ 6 := hT.1 2 30
  have bad : dAll (zX10_seen_14 q) (fun o => HM o.2 N P) := by
    unfold zX10_seen_14
    exact dA_B (lm_zX10_refuses q q _ fm_rf) (fun r1 q3 f => dA_some (hm_fm f h))
  have t1 : Int32.toInt (2 * (q.1 2 30)) = 2 * Int32.toInt (q.1 2 30) := ti_mul (by decide) rfl (by omega) (by omega)
  have t2 : Int32.toInt (14 + 2 * (q.1 2 30)) = 14 + 2 * Int32.toInt (q.1 2 30) := ti_add (by decide) t1 (by omega) (by omega)
  have t3 : Int32.toInt (14 + 2 * (q.1 2 30) + 1) = 14 + 2 * Int32.toInt (q.1 2 30) + 1 := ti_add t2 (by decide) (by omega) (by omega)
  have n2 := cl_eq (i := 14 + 2 * (q.1 2 30)) (by omega)
  have n3 := cl_eq (i := 14 + 2 * (q.1 2 30) + 1) (by omega)
  unfold zX10_seen
  refine dA_V dA_tr (fun r1 _ => dA_if (fun _ => bad) (fun _ => dA_V dA_tr (fun r3 _ => dA_if (fun _ => bad) (fun _ => dA_if (fun _ => ?_) (fun _ => ?_)))))
  · exact dA_B (lm_zX10_refuses q q _ fm_rf) (fun r13 q15 f => dA_some (hm_fm f h))
  · refine dA_G (fun _ => dA_L (fun q6 e6 => dA_G (fun _ => dA_L (fun q8 e8 => dA_L (fun q9 e9 => ?_)))))
    have h9 : HM q9 N P := by rw [e9, e8, e6]; exact hm_w (by decide) (hm_w (by omega) (hm_w (by omega) h))
    exact dA_B (lm_zX10_good q9 q9 _ fm_rf) (fun r10 q12 f => dA_some (hm_fm f h9))
theorem dm_forget (q : dS) {N : Int} {P : Int → Prop} (h : HM q N P) : dAll (zX10_forget q) (fun o => HM o.2 N P) := by
  unfold zX10_forget
  exact dA_L (fun q1 e1 => dA_some (by rw [e1]; exact hm_w (by decide) h))
theorem dm_compare (q : dS) (p1 : Int32) {N : Int} {P : Int → Prop} (h : HM q N P) : dAll (zX10_compare q p1) (fun o => HM o.2 N P) := by
  unfold zX10_compare
  refine dA_B (lm_zX10_isLaw q q _ fm_rf) (fun r1 q3 f3 => dA_if (fun _ => dA_some (hm_fm f3 h)) (fun _ => dA_L (fun q4 e4 => ?_)))
  refine dA_B (lm_zX10_fewest q4 q4 _ fm_rf) (fun r5 q7 f => dA_L (fun q8 e8 => dA_some ?_))
  show HM q8 N P
  rw [e8]; exact hm_w (by decide) (hm_fm f (by rw [e4]; exact hm_w (by decide) (hm_fm f3 h)))
theorem dm_obeys (q : dS) {N : Int} {P : Int → Prop} (h : HM q N P) : dAll (zX10_obeys q) (fun o => HM o.2 N P) := by
  unfold zX10_obeys
  refine dA_if (fun _ => dA_V dA_tr (fun r2 _ => dA_B (dm_rightsKept q r2 h) (fun r4 q6 h6 => dA_some h6))) (fun _ => dA_if (fun _ => dA_V dA_tr (fun r8 _ => dA_B (dm_swapsKept q r8 h) (fun r10 q12 h12 => dA_some h12))) (fun _ => dA_if (fun _ => dA_B (dm_passesKept q h) (fun r14 q16 h16 => dA_some h16)) (fun _ => dA_V dA_tr (fun r17 _ => dA_B (dm_turnsKept q r17 h) (fun r19 q21 h21 => ?_)))))
  have h86 : ∀ y : Int32, dAll (zX10_obeys_86 q21 r19 y) (fun o => HM o.2 N P) := by
    intro y
    unfold zX10_obeys_86
    exact dA_L (fun q1 e1 => dA_some (by rw [e1]; exact hm_0 (by decide) h21))
  exact dA_if (fun _ => h86 _) (fun _ => h86 _)
def KO (w q : dS) : Prop := q.1 5 = w.1 5 ∧ q.1 15 = w.1 15 ∧ q.1 2 29 = w.1 2 29
theorem dm_runs (q : dS) (p1 : Int32) {N : Int} {P : Int → Prop} (h : HM q N P) : dAll (zX10_runs q p1) (fun o => HM o.2 N P) := by
  unfold zX10_runs
  refine dA_V (lm_zX10_goesAlong q q _ _ fm_rf) (fun q3 f3 => ?_)
  have h3 := hm_fm f3 h
  unfold zX10_runs_19
  refine dA_fix (fun (a : dS × Int32 × Int32 × Int32 × Int32) => HM a.1 N P) ?_ dF _ h3
  intro k19 hk19 a ha
  obtain ⟨qb, x1, x2, x3, x4⟩ := a
  replace ha : HM qb N P := ha
  show dAll (zX10_runs_19b (fun q x1 x2 x3 x4 => k19 (q, x1, x2, x3, x4)) qb x1 x2 x3 x4) _
  unfold zX10_runs_19b
  have nxt : ∀ qc : dS, HM qc N P → dAll (zX10_runs_67 (fun q x1 x2 x3 x4 => k19 (q, x1, x2, x3, x4)) qc x1 x2 x3 x4) (fun o => HM o.2 N P) := by
    intro qc hc
    unfold zX10_runs_67
    exact hk19 (qc, x1, x2, x3, x4 + 1) hc
  refine dA_if (fun _ => dA_L (fun q1 e1 => dA_some (by rw [e1]; exact hm_0 (by decide) ha))) (fun _ => ?_)
  refine dA_V (lm_zX10_goesAlong qb qb _ _ fm_rf) (fun q4 f4 => ?_)
  have h4 := hm_fm f4 ha
  refine dA_if (fun _ => nxt q4 h4) (fun _ => dA_if (fun _ => ?_) (fun _ => ?_))
  · unfold zX10_runs_55; exact dA_some h4
  · refine dA_B (dm_obeys q4 h4) (fun r5 q7 h7 => dA_if (fun _ => dA_L (fun q8 e8 => nxt q8 (by rw [e8]; exact hm_0 (by decide) h7))) (fun _ => ?_))
    unfold zX10_runs_55; exact dA_some h7
theorem dm_orders (q : dS) {N : Int} {P : Int → Prop} (h : HM q N P) : dAll (zX10_orders q) (fun o => HM o.2 N P) := by
  have d0 : Int32.toInt 0 = 0 := by decide
  have d1 : Int32.toInt 1 = 1 := by decide
  have d240 : Int32.toInt 240 = 240 := by decide
  unfold zX10_orders
  refine dA_L (fun q1 e1 => ?_)
  have hq1 : HM q1 N P := by rw [e1]; exact hm_0 (by decide) h
  clear e1 h
  refine dA_B (lm_zX10_readsAs q1 q1 1 fm_rf) (fun r2 q4 f4 => dA_if (fun _ => dA_B (lm_zX10_refuses q4 q4 _ fm_rf) (fun r8 q10 f => dA_some (hm_fm f (hm_fm f4 hq1)))) (fun _ => ?_))
  have hq4 : HM q4 N P := hm_fm f4 hq1
  clear f4 hq1
  refine dA_V (dm_laysAside q4 1 14 (by rw [d1]; decide) (by omega) (by omega)) (fun q7 z7 => ?_)
  obtain ⟨s7, a7⟩ := z7
  have hq7 : HM q7 N P := hm_33 hq4 (by rw [s7 0 (by decide)]) (s7 14 (by decide)) (fun i _ => by rw [s7 2 (by decide)])
  have a7' : ∀ k : Nat, k < 14 → q7.1 5 (14 + k) = q7.1 2 k := fun k hk => (a7 k hk).trans (by rw [s7 2 (by decide)])
  clear s7 a7 hq4
  unfold zX10_orders_27
  refine dA_fix (fun (a : dS × Int32) => (∀ j : Nat, ¬ j = 15 → a.1.1 j = q7.1 j) ∧ 0 ≤ a.2.toInt ∧ a.2.toInt ≤ 240 ∧ ∀ m : Nat, (m : Int) < a.2.toInt → a.1.1 15 m = q7.1 14 m) ?_ dF _ ⟨fun _ _ => rfl, by show 0 ≤ Int32.toInt 0; omega, by show Int32.toInt 0 ≤ 240; omega, fun m hm => absurd hm (by show ¬ (m : Int) < Int32.toInt 0; omega)⟩
  intro k27 hk27 a ha
  obtain ⟨qb, x1⟩ := a
  obtain ⟨b0, b1, b2, b3⟩ := ha
  replace b0 : ∀ j : Nat, ¬ j = 15 → qb.1 j = q7.1 j := b0
  replace b1 : 0 ≤ x1.toInt := b1
  replace b2 : x1.toInt ≤ 240 := b2
  replace b3 : ∀ m : Nat, (m : Int) < x1.toInt → qb.1 15 m = q7.1 14 m := b3
  show dAll (zX10_orders_27b (fun q x1 => k27 (q, x1)) qb x1) _
  unfold zX10_orders_27b
  refine dA_le (fun c => ?_) (fun c => ?_)
  · have hb : HM qb N P := hm_33 hq7 (by rw [b0 0 (by decide)]) (b0 14 (by decide)) (fun i _ => by rw [b0 2 (by decide)])
    refine dA_V (dm_lays qb 6 (by decide) (by decide)) (fun q3 z3 => dA_L (fun q4 e4 => dA_L (fun q5 e5 => dA_L (fun q6 e6 => ?_))))
    obtain ⟨s3, t3⟩ := z3
    have h3 : HM q3 N P := hm_33 hb (by rw [s3 0 (by decide)]) (s3 14 (by decide)) (fun i hi => t3 i (by omega))
    have h6 : HM q6 N P := by rw [e6, e5, e4]; exact hm_0 (by decide) (hm_0 (by decide) (hm_0 (by decide) h3))
    have g5 : q6.1 5 = q7.1 5 := by rw [e6, dui_o (by decide), e5, dui_o (by decide), e4, dui_o (by decide), s3 5 (by decide), b0 5 (by decide)]
    have g15 : q6.1 15 = qb.1 15 := by rw [e6, dui_o (by decide), e5, dui_o (by decide), e4, dui_o (by decide), s3 15 (by decide)]
    have eu : qb.1 0 32 = q7.1 0 32 := by rw [b0 0 (by decide)]
    clear e4 e5 e6 s3 t3
    unfold zX10_orders_95
    refine dA_fix (fun (a : dS × Int32 × Int32 × Int32) => HM a.1 N P ∧ a.1.1 5 = q7.1 5 ∧ a.1.1 15 = qb.1 15 ∧ a.2.1 = qb.1 0 32) ?_ dF _ ⟨h6, g5, g15, rfl⟩
    intro k95 hk95 a ha
    obtain ⟨qc, y1, y2, y3⟩ := a
    obtain ⟨c0, c1, c2, c3⟩ := ha
    replace c0 : HM qc N P := c0
    replace c1 : qc.1 5 = q7.1 5 := c1
    replace c2 : qc.1 15 = qb.1 15 := c2
    replace c3 : y1 = qb.1 0 32 := c3
    show dAll (zX10_orders_95b (fun q x1 x2 x3 => k95 (q, x1, x2, x3)) qc y1 y2 y3) _
    unfold zX10_orders_95b
    refine dA_if (fun _ => dA_B (lm_zX10_good qc qc _ fm_rf) (fun r1 q3 f => dA_some (hm_fm f c0))) (fun _ => ?_)
    refine dA_B (dA_and (dm_runs qc y2 c0) (l5_zX10_runs qc qc y2 f5_rf)) (fun r4 q6 z6 => ?_)
    obtain ⟨h6, f6⟩ := z6
    replace h6 : HM q6 N P := h6
    replace f6 : F5 qc q6 := f6
    refine dA_if (fun _ => ?_) (fun _ => hk95 (q6, y1, y2, y3 + 1) ⟨h6, f6.1.trans c1, f6.2.trans c2, c3⟩)
    refine dA_V (dm_takesBack q6 1 14 (by rw [d1]; decide) (by omega) (by omega)) (fun q9 z9 => ?_)
    obtain ⟨s9, a9, b9⟩ := z9
    have g15 : q9.1 15 = qb.1 15 := by rw [s9 15 (by decide), f6.2, c2]
    have hr : ∀ k : Nat, k < 14 → q9.1 2 k = q7.1 2 k := fun k hk => by rw [a9 k hk, f6.1, c1]; exact a7' k hk
    have h29 : q9.1 2 29 = q6.1 2 29 := b9 29 (by decide)
    have hn6 : Int32.toInt (q6.1 2 29) = N := h6.1.1
    clear s9 a9 b9
    unfold zX10_orders_122
    refine dA_fix (fun (a : dS × Int32 × Int32 × Int32) => a.1.1 2 = q9.1 2 ∧ a.1.1 15 = qb.1 15 ∧ a.2.1 = qb.1 0 32 ∧ 0 ≤ a.2.2.2.toInt ∧ a.2.2.2.toInt ≤ 240 ∧ ∀ m : Nat, (m : Int) < a.2.2.2.toInt → a.1.1 14 m = qb.1 15 m) ?_ dF _ ⟨rfl, g15, c3, by show 0 ≤ Int32.toInt 0; omega, by show Int32.toInt 0 ≤ 240; omega, fun m hm => absurd hm (by show ¬ (m : Int) < Int32.toInt 0; omega)⟩
    intro k122 hk122 a ha
    obtain ⟨qd, z1, z3, z4⟩ := a
    obtain ⟨d0', d1', d2', d3', d4', d5'⟩ := ha
    replace d0' : qd.1 2 = q9.1 2 := d0'
    replace d1' : qd.1 15 = qb.1 15 := d1'
    replace d2' : z1 = qb.1 0 32 := d2'
    replace d3' : 0 ≤ z4.toInt := d3'
    replace d4' : z4.toInt ≤ 240 := d4'
    replace d5' : ∀ m : Nat, (m : Int) < z4.toInt → qd.1 14 m = qb.1 15 m := d5'
    show dAll (zX10_orders_122b (fun q x1 x3 x4 => k122 (q, x1, x3, x4)) qd z1 z3 z4) _
    unfold zX10_orders_122b
    refine dA_le (fun c5 => ?_) (fun c5 => ?_)
    · refine dA_L (fun q1 e1 => dA_L (fun q2 e2 => ?_))
      have h1 : HM q1 N P := by
        obtain ⟨p1', p2', p3', p4', p5', p6'⟩ := hq7
        have w2 : q1.1 2 = q9.1 2 := by rw [e1, dui_o (by decide)]; exact d0'
        have w14 : ∀ m : Nat, m < 240 → q1.1 14 m = q7.1 14 m := by
          intro m hm
          rw [e1, dui_o (by decide), d5' m (by omega)]
          exact b3 m (by omega)
        have w32 : q1.1 0 32 = q7.1 0 32 := by rw [e1, dui_e, d2']; exact eu
        unfold HM
        rw [w32]
        refine ⟨RS_e (n := Int32.toInt (q7.1 2 29)) (f := rkM q7 2 0) p1' (by rw [w2, h29]; exact hn6.trans p1'.1.symm) (fun i hi => ?_), p2', p3', p4', p5', fun i hi => RS_e (p6' i hi) rfl (fun j hj => ?_)⟩
        · show Int32.toInt (q1.1 2 (0 + i)) = Int32.toInt (q7.1 2 (0 + i))
          have := p1'.1
          rw [w2, Nat.zero_add, hr i (by omega)]
        · show Int32.toInt (q1.1 14 (15 * i + j)) = Int32.toInt (q7.1 14 (15 * i + j))
          rw [w14 _ (by omega)]
      have h2 : HM q2 N P := by rw [e2]; exact hm_0 (by decide) h1
      exact dA_B (lm_zX10_refuses q2 q2 _ fm_rf) (fun r3 q5 f => dA_some (hm_fm f h2))
    · have n4 := cl_eq d3'
      have t4 : Int32.toInt (z4 + 1) = z4.toInt + 1 := ti_add rfl d1 (by omega) (by omega)
      refine dA_G (fun _ => dA_L (fun v7 e7 => dA_G (fun _ => dA_L (fun q9' e9 => hk122 (q9', z1, z3, z4 + 1) ⟨?_, ?_, d2', by show 0 ≤ Int32.toInt (z4 + 1); omega, by show Int32.toInt (z4 + 1) ≤ 240; omega, fun m hm => ?_⟩))))
      · show q9'.1 2 = _; rw [e9, dui_o (by decide)]; exact d0'
      · show q9'.1 15 = _; rw [e9, dui_o (by decide)]; exact d1'
      · replace hm : (m : Int) < Int32.toInt (z4 + 1) := hm
        show q9'.1 14 m = _
        rw [e9]
        by_cases cm : (m : Int) < z4.toInt
        · rw [dui_n (by omega)]; exact d5' m cm
        · rw [show m = Int32.toNatClampNeg z4 by omega, dui_e, e7, d1']
  · have n1 := cl_eq b1
    have t1 : Int32.toInt (x1 + 1) = x1.toInt + 1 := ti_add rfl d1 (by omega) (by omega)
    refine dA_G (fun _ => dA_L (fun v8 e8 => dA_G (fun _ => dA_L (fun q10 e10 => hk27 (q10, x1 + 1) ⟨fun j hj => ?_, by show 0 ≤ Int32.toInt (x1 + 1); omega, by show Int32.toInt (x1 + 1) ≤ 240; omega, fun m hm => ?_⟩))))
    · show q10.1 j = _; rw [e10, dui_o hj]; exact b0 j hj
    · replace hm : (m : Int) < Int32.toInt (x1 + 1) := hm
      show q10.1 15 m = _
      rw [e10]
      by_cases cm : (m : Int) < x1.toInt
      · rw [dui_n (by omega)]; exact b3 m cm
      · rw [show m = Int32.toNatClampNeg x1 by omega, dui_e, e8, b0 14 (by decide)]
theorem rem_6 (x : Int32) : -6 ≤ Int32.toInt (x - x / 6 * 6) ∧ Int32.toInt (x - x / 6 * 6) ≤ 6 := by
  have hx := ti_rg x
  have d6 : Int32.toInt 6 = 6 := by decide
  obtain ⟨X, hX⟩ : ∃ X : Int, x.toInt = X := ⟨_, rfl⟩
  rw [hX] at hx
  have ht : ∃ Y : Int, X.tdiv 6 = Y ∧ -6 < X - Y * 6 ∧ X - Y * 6 < 6 ∧ -2147483648 ≤ Y ∧ Y ≤ 2147483647 ∧ -2147483648 ≤ Y * 6 ∧ Y * 6 ≤ 2147483647 := by
    by_cases c : 0 ≤ X
    · exact ⟨X / 6, Int.tdiv_eq_ediv_of_nonneg c, by omega, by omega, by omega, by omega, by omega, by omega⟩
    · refine ⟨-((-X) / 6), ?_, by omega, by omega, by omega, by omega, by omega, by omega⟩
      have z := Int.neg_tdiv (-X) 6
      rw [Int.neg_neg, Int.tdiv_eq_ediv_of_nonneg (a := -X) (b := 6) (by omega)] at z
      exact z
  obtain ⟨Y, hY, y1, y2, y3, y4, y5, y6⟩ := ht
  have h1 : (x / 6).toInt = Y := by rw [Int32.toInt_div, hX, d6, hY]; exact Int.bmod_eq_of_le (by omega) (by omega)
  have h2 : (x / 6 * 6).toInt = Y * 6 := ti_mul h1 d6 y5 y6
  have h3 := ti_sub hX h2 (by omega) (by omega)
  omega
theorem dm_years (q : dS) (p1 p2 : Int32) {N : Int} {P : Int → Prop} (h : HM q N P) : dAll (zX10_years q p1 p2) (fun o => HM o.2 N P) := by
  have d0 : Int32.toInt 0 = 0 := by decide
  have d1 : Int32.toInt 1 = 1 := by decide
  have bad : dAll (zX10_years_20 q) (fun o => HM o.2 N P) := by
    unfold zX10_years_20
    exact dA_B (lm_zX10_refuses q q _ fm_rf) (fun r1 q3 f => dA_some (hm_fm f h))
  unfold zX10_years
  refine dA_V dA_tr (fun r1 _ => dA_if (fun _ => bad) (fun _ => dA_V dA_tr (fun r3 _ => dA_if (fun _ => bad) (fun _ => ?_))))
  refine dA_B (lm_zX10_size q q fm_rf) (fun r5 q7 f7 => dA_if (fun _ => dA_B (lm_zX10_refuses q7 q7 _ fm_rf) (fun r16 q18 f => dA_some (hm_fm f (hm_fm f7 h)))) (fun _ => dA_L (fun q8 e8 => ?_)))
  have h8 : HM q8 N P := by rw [e8]; exact hm_0 (by decide) (hm_fm f7 h)
  refine dA_B (lm_zX10_size q8 q8 fm_rf) (fun r9 q11 f11 => dA_L (fun q12 e12 => ?_))
  have h12 : HM q12 N P := by rw [e12]; exact hm_0 (by decide) (hm_fm f11 h8)
  clear bad f7 e8 h8 f11 e12
  refine dA_V (dm_laysAside q12 0 0 (by rw [d0]; decide) (by omega) (by omega)) (fun q15 z15 => ?_)
  obtain ⟨s15, a15⟩ := z15
  have h15 : HM q15 N P := hm_33 h12 (by rw [s15 0 (by decide)]) (s15 14 (by decide)) (fun i _ => by rw [s15 2 (by decide)])
  have a15' : ∀ k : Nat, k < 14 → q15.1 5 (0 + k) = q15.1 2 k := fun k hk => (a15 k hk).trans (by rw [s15 2 (by decide)])
  clear s15 a15 h12
  have h177 : ∀ (qb : dS) (x3 : Int32), HM qb N P → qb.1 5 = q15.1 5 → dAll (zX10_years_177 qb x3) (fun o => HM o.2 N P) := by
    intro qb x3 hb h5
    unfold zX10_years_177 zX10_years_191
    refine dA_fix (fun (a : dS × Int32 × Int32) => HM a.1 N P ∧ a.1.1 5 = q15.1 5) ?_ dF _ ⟨hb, h5⟩
    intro k191 hk191 a ha
    obtain ⟨qc, x4, x5⟩ := a
    obtain ⟨c0, c1⟩ := ha
    replace c0 : HM qc N P := c0
    replace c1 : qc.1 5 = q15.1 5 := c1
    show dAll (zX10_years_191b (fun q x4 x5 => k191 (q, x4, x5)) qc x4 x5) _
    unfold zX10_years_191b
    refine dA_if (fun _ => ?_) (fun _ => dA_G (fun _ => dA_L (fun v8 _ => dA_G (fun _ => dA_L (fun q10 e10 => hk191 (q10, x4, x5 + 1) ⟨by show HM q10 N P; rw [e10]; exact hm_r (by decide) c0, by show q10.1 5 = _; rw [e10, dui_o (by decide)]; exact c1⟩)))))
    refine dA_V (dm_takesBack qc 0 0 (by rw [d0]; decide) (by omega) (by omega)) (fun q3 z3 => ?_)
    obtain ⟨s3, a3, b3⟩ := z3
    have h3 : HM q3 N P := by
      obtain ⟨p1', p2', p3', p4', p5', p6'⟩ := c0
      have hn := h15.1.1
      unfold HM
      rw [s3 0 (by decide), b3 29 (by decide)]
      refine ⟨RS_e (n := Int32.toInt (q15.1 2 29)) (f := rkM q15 2 0) h15.1 (p1'.1.trans hn.symm) (fun i hi => ?_), p2', p3', p4', p5', fun i hi => ?_⟩
      · show Int32.toInt (q3.1 2 (0 + i)) = Int32.toInt (q15.1 2 (0 + i))
        rw [Nat.zero_add, a3 i (by omega), c1, a15' i (by omega)]
      · unfold rkM
        rw [s3 14 (by decide)]; exact p6' i hi
    exact dA_B (lm_zX10_good q3 q3 _ fm_rf) (fun r4 q6 f => dA_some (hm_fm f h3))
  unfold zX10_years_69
  refine dA_fix (fun (a : dS × Int32 × Int32 × Int32) => HM a.1 N P ∧ a.1.1 5 = q15.1 5) ?_ dF _ ⟨h15, rfl⟩
  intro k69 hk69 a ha
  obtain ⟨qb, x2, x3, x4⟩ := a
  obtain ⟨b0, b1⟩ := ha
  replace b0 : HM qb N P := b0
  replace b1 : qb.1 5 = q15.1 5 := b1
  show dAll (zX10_years_69b (fun q x2 x3 x4 => k69 (q, x2, x3, x4)) qb x2 x3 x4) _
  unfold zX10_years_69b
  refine dA_if (fun _ => h177 qb x3 b0 b1) (fun _ => dA_if (fun _ => h177 qb x3 b0 b1) (fun _ => ?_))
  have hd : ∀ (qc : dS) (m : Int32), dAll (zX10_draws qc m) (fun o => Fm qc o.2 ∧ F5 qc o.2) := fun qc m => dA_and (lm_zX10_draws qc qc m fm_rf) (l5_zX10_draws qc qc m f5_rf)
  have hdr : dAll (zX10_draws qb 6) (fun o => -6 ≤ Int32.toInt o.1 ∧ Int32.toInt o.1 ≤ 6) := by
    unfold zX10_draws
    refine dA_L (fun v1 _ => dA_L (fun q2 _ => dA_G (fun _ => dA_some ?_)))
    exact rem_6 _
  refine dA_B (dA_and hdr (hd qb 6)) (fun r1 q3 z3 => ?_)
  obtain ⟨g3, f3, l3⟩ := z3
  replace g3 : -6 ≤ Int32.toInt r1 ∧ Int32.toInt r1 ≤ 6 := g3
  refine dA_B (hd q3 3) (fun r4 q6 z6 => ?_)
  obtain ⟨f6, l6⟩ := z6
  have h6 : HM q6 N P := hm_fm f6 (hm_fm f3 b0)
  have e6 : q6.1 5 = q15.1 5 := l6.1.trans (l3.1.trans b1)
  have t1 : Int32.toInt (r1 + 1) = Int32.toInt r1 + 1 := ti_add rfl d1 (by omega) (by omega)
  have h166 : ∀ qc : dS, HM qc N P → qc.1 5 = q15.1 5 → dAll (zX10_years_166 (fun q x2 x3 x4 => k69 (q, x2, x3, x4)) qc x2 x3 x4) (fun o => HM o.2 N P) := by
    intro qc c0 c1
    unfold zX10_years_166
    refine dA_B (dA_and (dm_yearPasses qc c0) (l5_zX10_yearPasses qc qc f5_rf)) (fun r1 q3 z => hk69 (q3, x2, x3, x4 + 1) ⟨z.1, z.2.1.trans c1⟩)
  have h129 : ∀ (qc : dS) (x5 x6 : Int32), HM qc N P → qc.1 5 = q15.1 5 → dAll (zX10_years_129 (fun q x2 x3 x4 => k69 (q, x2, x3, x4)) qc x2 x3 x4 x5 x6) (fun o => HM o.2 N P) := by
    intro qc x5 x6 c0 c1
    unfold zX10_years_129
    refine dA_if (fun _ => ?_) (fun _ => h166 qc c0 c1)
    have hn : Int32.toInt (qc.1 2 29) = N := c0.1.1
    have hN := c0.2.2.1
    have hN0 := c0.2.1
    have hp : dAll (zX10_isPlace qc x5) (fun o => o.2 = qc ∧ (Int32.toInt o.1 = 0 ∨ (0 ≤ Int32.toInt x5 ∧ Int32.toInt x5 < N))) := by
      unfold zX10_isPlace zX10_size
      refine dA_B (R := fun o => o = (qc.1 2 29, qc)) (dA_some rfl) (fun r1 q3 z => ?_)
      have z1 : r1 = qc.1 2 29 := congrArg Prod.fst z
      have z2 : q3 = qc := congrArg Prod.snd z
      subst z1 z2
      have tm : Int32.toInt (q3.1 2 29 - 1) = N - 1 := ti_sub hn d1 (by omega) (by omega)
      refine dA_V (dm_lies x5 0 (q3.1 2 29 - 1)) (fun r4 z4 => dA_G (fun _ => dA_some ⟨rfl, ?_⟩))
      rw [tm, d0] at z4
      show Int32.toInt r4 = 0 ∨ (0 ≤ Int32.toInt x5 ∧ Int32.toInt x5 < N)
      omega
    refine dA_B hp (fun r1 q3 z => ?_)
    obtain ⟨z1, z2⟩ := z
    replace z1 : q3 = qc := z1
    replace z2 : Int32.toInt r1 = 0 ∨ (0 ≤ Int32.toInt x5 ∧ Int32.toInt x5 < N) := z2
    subst q3
    refine dA_eq (fun _ _ => h166 qc c0 c1) (fun _ c => ?_)
    have tk : Int32.toInt (6 + x5) = 6 + x5.toInt := ti_add (by decide) rfl (by omega) (by omega)
    have nk := cl_eq (i := 6 + x5) (by omega)
    refine dA_G (fun _ => dA_L (fun v5 _ => dA_G (fun _ => dA_L (fun q7 e7 => h166 q7 (by rw [e7]; exact hm_w (by omega) c0) (by rw [e7, dui_o (by decide)]; exact c1)))))
  refine dA_if (fun _ => h129 q6 _ _ h6 e6) (fun _ => ?_)
  refine dA_B (dA_and (dm_canTurn q6 (r1 + 1) h6) (l5_zX10_canTurn q6 q6 _ f5_rf)) (fun r7 q9 z9 => ?_)
  obtain ⟨⟨f9, g9⟩, l9⟩ := z9
  replace g9 : Int32.toInt r7 = 0 ∨ Int32.toInt (r1 + 1) ≤ N := g9
  have h9 := hm_fm f9 h6
  have e9 : q9.1 5 = q15.1 5 := l9.1.trans e6
  refine dA_eq (fun _ _ => h129 q9 _ _ h9 e9) (fun _ c => ?_)
  exact dA_B (dA_and (dm_turns q9 (r1 + 1) h9 (by omega) (by omega)) (l5_zX10_turns q9 q9 _ f5_rf)) (fun r10 q12 z => h129 q12 _ _ z.1 (z.2.1.trans e9))
def IM (q : dS) (k : Nat) (N : Int) (P : Int → Prop) : Prop := RS (Int32.toInt (q.1 3 (5640 * k + 29))) (rkM q 3 (5640 * k)) N P ∧ 0 ≤ N ∧ N ≤ 6
theorem dm_image (q : dS) (p1 : Int32) {N : Int} {P : Int → Prop} (h : HM q N P) : dAll (zX10_image q p1) (fun o => HM o.2 N P ∧ (∀ (k : Nat) (N' : Int) (P' : Int → Prop), k < 2 → ¬ (k : Int) = Int32.toInt p1 → IM q k N' P' → IM o.2 k N' P') ∧ ∀ k : Nat, k < 2 → (k : Int) = Int32.toInt p1 → IM o.2 k N P) := by
  have d0 : Int32.toInt 0 = 0 := by decide
  have d1 : Int32.toInt 1 = 1 := by decide
  have d56 : Int32.toInt 5640 = 5640 := by decide
  unfold zX10_image
  refine dA_V (dm_lies p1 0 1) (fun r1 z => dA_eq (fun _ c => ?_) (fun _ c => ?_))
  · rw [d0, d1] at z
    refine dA_B (R := fun o => HM o.2 N P ∧ o.2.1 3 = q.1 3) ?_ (fun r3 q5 z5 => dA_some ⟨z5.1, fun k N' P' _ _ hi => ?_, fun k hk hk2 => absurd hk2 (by omega)⟩)
    · unfold zX10_refuses
      refine dA_L (fun q1 e1 => dA_G (fun _ => dA_L (fun v3 _ => dA_G (fun _ => dA_L (fun q5 e5 => dA_some ⟨?_, ?_⟩)))))
      · show HM q5 N P
        rw [e5, e1]; exact hm_r (by decide) (hm_0 (by decide) h)
      · show q5.1 3 = q.1 3
        rw [e5, dui_o (by decide), e1, dui_o (by decide)]
    · have e3 : q5.1 3 = q.1 3 := z5.2
      show IM q5 k N' P'
      unfold IM rkM
      rw [e3]; exact hi
  · rw [d0, d1] at z
    have hp : 0 ≤ Int32.toInt p1 ∧ Int32.toInt p1 ≤ 1 := by omega
    have np := cl_eq hp.1
    obtain ⟨s, es⟩ : ∃ s : Nat, s = 5640 * Int32.toNatClampNeg p1 := ⟨_, rfl⟩
    have tm : Int32.toInt (5640 * p1) = (s : Int) := by
      have := ti_mul d56 (rfl : Int32.toInt p1 = Int32.toInt p1) (by omega) (by omega)
      omega
    unfold zX10_image_17
    refine dA_fix (fun (a : dS × Int32 × Int32) => HM a.1 N P ∧ a.1.1 2 = q.1 2 ∧ a.2.1 = p1 ∧ 0 ≤ a.2.2.toInt ∧ a.2.2.toInt ≤ 5640 ∧ (∀ m : Nat, (m : Int) < a.2.2.toInt → a.1.1 3 (s + m) = q.1 2 m) ∧ ∀ m : Nat, (m < s ∨ s + 5640 ≤ m) → a.1.1 3 m = q.1 3 m) ?_ dF _ ⟨h, rfl, rfl, by show 0 ≤ Int32.toInt 0; omega, by show Int32.toInt 0 ≤ 5640; omega, fun m hm => absurd hm (by show ¬ (m : Int) < Int32.toInt 0; omega), fun _ _ => rfl⟩
    intro k17 hk17 a ha
    obtain ⟨qb, x1, x2⟩ := a
    obtain ⟨b0, b1, b2, b3, b4, b5, b6⟩ := ha
    replace b0 : HM qb N P := b0
    replace b1 : qb.1 2 = q.1 2 := b1
    replace b2 : p1 = x1 := Eq.symm b2
    replace b3 : 0 ≤ x2.toInt := b3
    replace b4 : x2.toInt ≤ 5640 := b4
    replace b5 : ∀ m : Nat, (m : Int) < x2.toInt → qb.1 3 (s + m) = q.1 2 m := b5
    replace b6 : ∀ m : Nat, (m < s ∨ s + 5640 ≤ m) → qb.1 3 m = q.1 3 m := b6
    subst b2
    show dAll (zX10_image_17b (fun q x1 x2 => k17 (q, x1, x2)) qb p1 x2) _
    unfold zX10_image_17b
    refine dA_le (fun c2 => ?_) (fun c2 => ?_)
    · refine dA_G (fun _ => dA_L (fun q2 e2 => ?_))
      have h2 : HM q2 N P := by rw [e2]; exact hm_r (by decide) b0
      have r3 : q2.1 3 = qb.1 3 := by rw [e2]; exact dui_o (by decide)
      unfold zX10_good
      refine dA_B (R := fun o => o.2 = dui q2 0 0 0) (dA_L (fun q1 e1 => dA_some e1)) (fun r3' q5 z5 => dA_some ?_)
      replace z5 : q5 = dui q2 0 0 0 := z5
      have r5 : q5.1 3 = qb.1 3 := by rw [z5, dui_o (by decide)]; exact r3
      refine ⟨by show HM q5 N P; rw [z5]; exact hm_0 (by decide) h2, fun k N' P' hk hk2 hi => ?_, fun k hk hk2 => ?_⟩
      · obtain ⟨i1, i2, i3⟩ := hi
        have hn := i1.1
        show IM q5 k N' P'
        refine ⟨RS_e i1 (by rw [r5, b6 _ (by omega)]) (fun i hi => ?_), i2, i3⟩
        show Int32.toInt (q5.1 3 (5640 * k + i)) = Int32.toInt (q.1 3 (5640 * k + i))
        rw [r5, b6 _ (by omega)]
      · have ek : 5640 * k = s := by omega
        have hq := h.1
        have hn := hq.1
        have hN := h.2.2.1
        show IM q5 k N P
        refine ⟨RS_e hq (by rw [r5, ek, b5 29 (by omega)]) (fun i hi => ?_), h.2.1, h.2.2.1⟩
        show Int32.toInt (q5.1 3 (5640 * k + i)) = Int32.toInt (q.1 2 (0 + i))
        rw [r5, ek, b5 i (by omega), Nat.zero_add]
    · have n2 := cl_eq b3
      have tk : Int32.toInt (5640 * p1 + x2) = (s : Int) + x2.toInt := ti_add tm rfl (by omega) (by omega)
      have nk := cl_eq (i := 5640 * p1 + x2) (by omega)
      have t4 : Int32.toInt (x2 + 1) = x2.toInt + 1 := ti_add rfl d1 (by omega) (by omega)
      refine dA_G (fun _ => dA_L (fun v7 e7 => dA_G (fun _ => dA_L (fun q9 e9 => hk17 (q9, p1, x2 + 1) ⟨by show HM q9 N P; rw [e9]; exact hm_r (by decide) b0, by show q9.1 2 = _; rw [e9, dui_o (by decide)]; exact b1, rfl, by show 0 ≤ Int32.toInt (x2 + 1); omega, by show Int32.toInt (x2 + 1) ≤ 5640; omega, fun m hm => ?_, fun m hm => ?_⟩))))
      · replace hm : (m : Int) < Int32.toInt (x2 + 1) := hm
        show q9.1 3 (s + m) = _
        rw [e9]
        by_cases cm : (m : Int) < x2.toInt
        · rw [dui_n (by omega)]; exact b5 m cm
        · rw [show s + m = Int32.toNatClampNeg (5640 * p1 + x2) by omega, dui_e, e7, b1, show m = Int32.toNatClampNeg x2 by omega]
      · show q9.1 3 m = _
        rw [e9, dui_n (by omega)]; exact b6 m hm
theorem dm_back (q : dS) (p1 : Int32) {N : Int} {P : Int → Prop} (h : HM q N P) (hi : ∀ k : Nat, k < 2 → (k : Int) = Int32.toInt p1 → ¬ Int32.toInt (q.1 4 k) = 0 → ∃ (N' : Int) (P' : Int → Prop), IM q k N' P') : dAll (zX10_back q p1) (fun o => o.2.1 3 = q.1 3 ∧ ((HM o.2 N P ∧ (Int32.toInt p1 < 0 ∨ 1 < Int32.toInt p1 ∨ (0 ≤ Int32.toInt p1 ∧ Int32.toInt p1 ≤ 1 ∧ Int32.toInt (q.1 4 (Int32.toNatClampNeg p1)) = 0))) ∨ (0 ≤ Int32.toInt p1 ∧ Int32.toInt p1 ≤ 1 ∧ ¬ Int32.toInt (q.1 4 (Int32.toNatClampNeg p1)) = 0 ∧ ∀ (N' : Int) (P' : Int → Prop), IM q (Int32.toNatClampNeg p1) N' P' → HM o.2 N' P'))) := by
  have d0 : Int32.toInt 0 = 0 := by decide
  have d1 : Int32.toInt 1 = 1 := by decide
  have d56 : Int32.toInt 5640 = 5640 := by decide
  have ref : ∀ r : Int32, dAll (zX10_refuses q r) (fun o => HM o.2 N P ∧ o.2.1 3 = q.1 3) := by
    intro r
    unfold zX10_refuses
    refine dA_L (fun q1 e1 => dA_G (fun _ => dA_L (fun v3 _ => dA_G (fun _ => dA_L (fun q5 e5 => dA_some ⟨?_, ?_⟩)))))
    · show HM q5 N P
      rw [e5, e1]; exact hm_r (by decide) (hm_0 (by decide) h)
    · show q5.1 3 = q.1 3
      rw [e5, dui_o (by decide), e1, dui_o (by decide)]
  unfold zX10_back
  refine dA_V (dm_lies p1 0 1) (fun r1 z => dA_eq (fun _ c => ?_) (fun _ c => ?_))
  · rw [d0, d1] at z
    exact dA_B (ref (-1)) (fun r8 q10 w => dA_some ⟨w.2, Or.inl ⟨w.1, by omega⟩⟩)
  rw [d0, d1] at z
  have hp : 0 ≤ Int32.toInt p1 ∧ Int32.toInt p1 ≤ 1 := by omega
  refine dA_G (fun _ => dA_L (fun v4 e4 => dA_eq (fun _ c4 => ?_) (fun _ c4 => ?_)))
  · exact dA_B (ref (-2)) (fun r5 q7 w => dA_some ⟨w.2, Or.inl ⟨w.1, Or.inr (Or.inr ⟨hp.1, hp.2, by rw [← e4]; omega⟩)⟩⟩)
  have f4 : ¬ Int32.toInt (q.1 4 (Int32.toNatClampNeg p1)) = 0 := by rw [← e4]; omega
  have np := cl_eq hp.1
  obtain ⟨kk, ek⟩ : ∃ k : Nat, Int32.toNatClampNeg p1 = k := ⟨_, rfl⟩
  rw [ek] at np f4 ⊢
  have tm : Int32.toInt (5640 * p1) = ((5640 * kk : Nat) : Int) := by
    have := ti_mul d56 (rfl : Int32.toInt p1 = Int32.toInt p1) (by omega) (by omega)
    omega
  obtain ⟨h1, h2, h3, h4, h5, h6⟩ := h
  unfold zX10_back_33
  refine dA_fix (fun (a : dS × Int32 × Int32) => a.1.1 3 = q.1 3 ∧ a.2.1 = p1 ∧ 0 ≤ a.2.2.toInt ∧ a.2.2.toInt ≤ 5640 ∧ ∀ m : Nat, (m : Int) < a.2.2.toInt → a.1.1 2 m = q.1 3 (5640 * kk + m)) ?_ dF _ ⟨rfl, rfl, by show 0 ≤ Int32.toInt 0; omega, by show Int32.toInt 0 ≤ 5640; omega, fun m hm => absurd hm (by show ¬ (m : Int) < Int32.toInt 0; omega)⟩
  intro k33 hk33 a ha
  obtain ⟨qb, x1, x2⟩ := a
  obtain ⟨b0, b1, b2, b3, b4⟩ := ha
  replace b0 : qb.1 3 = q.1 3 := b0
  replace b1 : p1 = x1 := Eq.symm b1
  replace b2 : 0 ≤ x2.toInt := b2
  replace b3 : x2.toInt ≤ 5640 := b3
  replace b4 : ∀ m : Nat, (m : Int) < x2.toInt → qb.1 2 m = q.1 3 (5640 * kk + m) := b4
  subst b1
  show dAll (zX10_back_33b (fun q x1 x2 => k33 (q, x1, x2)) qb p1 x2) _
  unfold zX10_back_33b
  refine dA_le (fun c2 => ?_) (fun c2 => ?_)
  · obtain ⟨N0, P0, i1, i2, i3⟩ := hi kk (by omega) np f4
    have hn := i1.1
    have hrs : ∀ (N' : Int) (P' : Int → Prop), IM q kk N' P' → RS (Int32.toInt (qb.1 2 29)) (rkM qb 2 0) N' P' := by
      intro N' P' hj
      refine RS_e hj.1 (by rw [b4 29 (by omega)]) (fun i hi => ?_)
      show Int32.toInt (qb.1 2 (0 + i)) = Int32.toInt (q.1 3 (5640 * kk + i))
      rw [Nat.zero_add, b4 i (by omega)]
    have h3' : dAll (zX10_settled qb 0) (fun o => o.2.1 3 = q.1 3) := by
      unfold zX10_settled zX10_good
      refine dA_L (fun q1 e1 => dA_B (R := fun o => o.2 = dui q1 0 0 0) (dA_L (fun q2 e2 => dA_some e2)) (fun r2 q4 z => dA_some ?_))
      show q4.1 3 = q.1 3
      replace z : q4 = dui q1 0 0 0 := z
      rw [z, dui_o (by decide), e1, dui_o (by decide)]; exact b0
    have h4' : dAll (zX10_settled qb 0) (fun o => ∀ (N' : Int) (P' : Int → Prop), IM q kk N' P' → HM o.2 N' P') := by
      intro o eo N' P' hj
      exact (dm_settled (hrs N' P' hj) hj.2.1 hj.2.2 o eo).2.1
    exact dA_B (dA_and h3' h4') (fun r1 q3 w => dA_some ⟨w.1, Or.inr ⟨hp.1, hp.2, f4, w.2⟩⟩)
  · have n2 := cl_eq b2
    have tk : Int32.toInt (5640 * p1 + x2) = ((5640 * kk : Nat) : Int) + x2.toInt := ti_add tm rfl (by omega) (by omega)
    have nk := cl_eq (i := 5640 * p1 + x2) (by omega)
    have t4 : Int32.toInt (x2 + 1) = x2.toInt + 1 := ti_add rfl d1 (by omega) (by omega)
    refine dA_G (fun _ => dA_L (fun v5 e5 => dA_G (fun _ => dA_L (fun q7 e7 => hk33 (q7, p1, x2 + 1) ⟨by show q7.1 3 = _; rw [e7, dui_o (by decide)]; exact b0, rfl, by show 0 ≤ Int32.toInt (x2 + 1); omega, by show Int32.toInt (x2 + 1) ≤ 5640; omega, fun m hm => ?_⟩))))
    replace hm : (m : Int) < Int32.toInt (x2 + 1) := hm
    show q7.1 2 m = _
    rw [e7]
    by_cases cm : (m : Int) < x2.toInt
    · rw [dui_n (by omega)]; exact b4 m cm
    · rw [show m = Int32.toNatClampNeg x2 by omega, dui_e, e5, b0, show Int32.toNatClampNeg (5640 * p1 + x2) = 5640 * kk + Int32.toNatClampNeg x2 by omega]
