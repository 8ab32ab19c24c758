/-! clauses -/
/-- what a clause says, from token t to w: its numbers, its code -/
def CLR (oo W : Int) (cs vs : Nat → Int) (C : Nat → Int32) (kd tm : Int) (a b c t w : Nat) : Prop := ∃ (u v : Nat) (f g : VF), ((oo = 0 ∧ 0 ≤ kd ∧ kd < 3 ∧ cs t = kd + 1) ∨ (oo = 1 ∧ 0 ≤ kd ∧ kd < 4 ∧ cs t = 22 + kd)) ∧ ((((oo = 0 ∧ kd = 0) ∨ (oo = 1 ∧ ¬ kd = 3)) ∧ Sp oo cs vs 2 (t + 1) u f ∧ ex2 cs u ∧ Cd C W a b 19 0 f) ∨ (((oo = 0 ∧ ¬ kd = 0) ∨ (oo = 1 ∧ kd = 3)) ∧ u = t + 1 ∧ a = b)) ∧ ((oo = 1 ∧ cs u = 26 ∧ cs (u + 1) = 50 ∧ 1 ≤ vs (u + 1) ∧ vs (u + 1) ≤ 20 ∧ tm = vs (u + 1) ∧ v = u + 2) ∨ (¬ (oo = 1 ∧ cs u = 26) ∧ tm = 1 ∧ v = u)) ∧ ((cs v = 4 ∧ Sp oo cs vs 6 (v + 1) w g ∧ ex6 cs w ∧ Cd C W b c 20 1 g) ∨ (¬ cs v = 4 ∧ w = v ∧ b = c))
/-- clause j is at hand: its rows; those ahead of it are as they were -/
def XJ (q0 q : dK) (j : Nat) (kd tm : Int) (a b c : Nat) : Prop := Int32.toInt (q.1 25 6) = ((j + 1 : Nat) : Int) ∧ Int32.toInt (q.1 26 j) = kd ∧ Int32.toInt (q.1 27 j) = tm ∧ Int32.toInt (q.1 28 j) = (a : Int) ∧ Int32.toInt (q.1 29 j) = (b : Int) ∧ Int32.toInt (q.1 30 j) = (c : Int) ∧ ∀ i : Nat, i < j → q.1 26 i = q0.1 26 i ∧ q.1 27 i = q0.1 27 i ∧ q.1 28 i = q0.1 28 i ∧ q.1 29 i = q0.1 29 i ∧ q.1 30 i = q0.1 30 i
def R5 (q o : dK) : Prop := o.1 26 = q.1 26 ∧ o.1 27 = q.1 27 ∧ o.1 28 = q.1 28 ∧ o.1 29 = q.1 29 ∧ o.1 30 = q.1 30 ∧ o.1 25 6 = q.1 25 6
theorem XJ.s {q0 q o : dK} {j : Nat} {kd tm : Int} {a b c : Nat} (h : XJ q0 q j kd tm a b c) (k : R5 q o) : XJ q0 o j kd tm a b c := by
  obtain ⟨k1, k2, k3, k4, k5, k6⟩ := k
  unfold XJ at h ⊢
  rw [k1, k2, k3, k4, k5, k6]
  exact h
section X7
variable {B : Nat → Int} {n T : Nat} {ps es : Nat → Nat} {cs vs : Nat → Int} {oo W : Int}
theorem x_step5 (hK : TKS B n T ps es cs vs) (q : dK) {t a : Nat} {l : Int} (h : XS B n T ps es oo q t a 0 l) (ht : t < T) : dAll (zX4_step_s24 q) (fun o => XS B n T ps es oo o (t + 1) a 0 l ∧ (∀ i : Nat, o.1 31 i = q.1 31 i) ∧ R5 q o) := by
  refine dA_mono (dA_and (x_step hK q h ht) (dA_of (ok_X4_step_s24 q h.1.1 h.1.2.1))) (fun o w => ⟨w.1.1, w.1.2, ?_⟩)
  have w4 := w.2.2
  exact ⟨w4.row 26 (by decide) (by decide), w4.row 27 (by decide) (by decide), w4.row 28 (by decide) (by decide), w4.row 29 (by decide) (by decide), w4.row 30 (by decide) (by decide), w4.1 25 6 (by decide) (by decide)⟩
theorem x_begin (q : dK) (p1 : Int32) {t a j : Nat} {l : Int} (h : XS B n T ps es oo q t a 0 l) (hj : Int32.toInt (q.1 25 6) = (j : Int)) (hj12 : j < 12) : dAll (zX7_beginClause_s25 q p1) (fun o => XS B n T ps es oo o t a 0 l ∧ XJ q o j (Int32.toInt p1) 1 a a a ∧ ∀ i : Nat, o.1 31 i = q.1 31 i) := by
  obtain ⟨g1, g2, g3, g4, g6, g7⟩ := h
  have d1 : Int32.toInt 1 = 1 := by decide
  have d12 : Int32.toInt 12 = 12 := by decide
  have nj := cl_eq (i := q.1 25 6) (by omega)
  have ej : Int32.toNatClampNeg (q.1 25 6) = j := by omega
  have hx : dAll (zX7_beginClause_s25 q p1) (fun o => XJ q o j (Int32.toInt p1) 1 a a a) := by
    unfold zX7_beginClause_s25 zX7_beginClause_s25_81
    refine dA_le (fun c => by omega) (fun _ => dA_G (fun _ => dA_L (fun q2 e2 => dA_G (fun _ => dA_L (fun q4 e4 => dA_G (fun _ => dA_L (fun q6 e6 => dA_G (fun _ => dA_L (fun q8 e8 => dA_G (fun _ => dA_L (fun q10 e10 => dA_L (fun q11 e11 => dA_some ?_))))))))))))
    have s2 : q2.1 25 = q.1 25 := by rw [e2, cui_o (by decide)]
    have s4 : q4.1 25 = q.1 25 := by rw [e4, cui_o (by decide), s2]
    have s6 : q6.1 25 = q.1 25 := by rw [e6, cui_o (by decide), s4]
    have s8 : q8.1 25 = q.1 25 := by rw [e8, cui_o (by decide), s6]
    have s10 : q10.1 25 = q.1 25 := by rw [e10, cui_o (by decide), s8]
    rw [ej] at e2
    rw [s2, ej] at e4
    rw [s4, ej] at e6
    rw [s6, ej] at e8
    rw [s8, ej] at e10
    refine ⟨?_, ?_, ?_, ?_, ?_, ?_, fun i hi => ⟨?_, ?_, ?_, ?_, ?_⟩⟩
    · rw [e11, cui_e, s10, ti_add hj d1 (by omega) (by omega)]; omega
    · rw [e11, cui_o (by decide), e10, cui_o (by decide), e8, cui_o (by decide), e6, cui_o (by decide), e4, cui_o (by decide), e2, cui_e]
    · rw [e11, cui_o (by decide), e10, cui_o (by decide), e8, cui_o (by decide), e6, cui_o (by decide), e4, cui_e]; exact d1
    · rw [e11, cui_o (by decide), e10, cui_o (by decide), e8, cui_o (by decide), e6, cui_e]; exact g4
    · rw [e11, cui_o (by decide), e10, cui_o (by decide), e8, cui_e]; exact g4
    · rw [e11, cui_o (by decide), e10, cui_e]; exact g4
    · rw [e11, cui_o (by decide), e10, cui_o (by decide), e8, cui_o (by decide), e6, cui_o (by decide), e4, cui_o (by decide), e2, cui_n (by omega)]
    · rw [e11, cui_o (by decide), e10, cui_o (by decide), e8, cui_o (by decide), e6, cui_o (by decide), e4, cui_n (by omega), e2, cui_o (by decide)]
    · rw [e11, cui_o (by decide), e10, cui_o (by decide), e8, cui_o (by decide), e6, cui_n (by omega), e4, cui_o (by decide), e2, cui_o (by decide)]
    · rw [e11, cui_o (by decide), e10, cui_o (by decide), e8, cui_n (by omega), e6, cui_o (by decide), e4, cui_o (by decide), e2, cui_o (by decide)]
    · rw [e11, cui_o (by decide), e10, cui_n (by omega), e8, cui_o (by decide), e6, cui_o (by decide), e4, cui_o (by decide), e2, cui_o (by decide)]
  refine dA_mono (dA_and hx (dA_and (c_begin q p1) (dA_of (ok_X7_beginClause_s25 q p1 g1.1)))) (fun o w => ?_)
  obtain ⟨w1, w4, w5, w6⟩ := w
  exact ⟨⟨g1.s w5 w6 (by decide) (by decide) (by decide), g2.s w4, g3.s w4, by rw [w6.1 25 7 (by decide) (by decide)]; exact g4, g6, g7⟩, w1, fun i => congrFun (w6.row 31 (by decide) (by decide)) i⟩
theorem x_endS (q0 q : dK) {t a b c0 j : Nat} {l kd tm : Int} {b0 : Nat} (h : XS B n T ps es oo q t b 0 l) (hj : XJ q0 q j kd tm a b0 c0) (hj12 : j < 12) : dAll (zX7_endSum_s25 q) (fun o => XS B n T ps es oo o t b 0 l ∧ XJ q0 o j kd tm a b b ∧ ∀ i : Nat, o.1 31 i = q.1 31 i) := by
  obtain ⟨g1, g2, g3, g4, g6, g7⟩ := h
  have d1 : Int32.toInt 1 = 1 := by decide
  have d0 : Int32.toInt 0 = 0 := by decide
  obtain ⟨j1, j2, j3, j4, j5, j6, j7⟩ := hj
  have tj : Int32.toInt ((q.1 25 6) - 1 : Int32) = (j : Int) := by rw [ti_sub j1 d1 (by omega) (by omega)]; omega
  have nj := cl_eq (i := ((q.1 25 6) - 1 : Int32)) (by omega)
  have ej : Int32.toNatClampNeg ((q.1 25 6) - 1 : Int32) = j := by omega
  have hx : dAll (zX7_endSum_s25 q) (fun o => XJ q0 o j kd tm a b b) := by
    unfold zX7_endSum_s25 zX7_endSum_s25_37
    refine dA_le (fun c => by omega) (fun _ => dA_G (fun _ => dA_L (fun q2 e2 => dA_G (fun _ => dA_L (fun q4 e4 => dA_some ?_)))))
    have s2 : q2.1 25 = q.1 25 := by rw [e2, cui_o (by decide)]
    rw [ej] at e2
    rw [s2, ej] at e4
    refine ⟨?_, ?_, ?_, ?_, ?_, ?_, fun i hi => ?_⟩
    · rw [e4, cui_o (by decide), s2]; exact j1
    · rw [e4, cui_o (by decide), e2, cui_o (by decide)]; exact j2
    · rw [e4, cui_o (by decide), e2, cui_o (by decide)]; exact j3
    · rw [e4, cui_o (by decide), e2, cui_o (by decide)]; exact j4
    · rw [e4, cui_o (by decide), e2, cui_e]; exact g4
    · rw [e4, cui_e]; exact g4
    · obtain ⟨i1, i2, i3, i4, i5⟩ := j7 i hi
      refine ⟨?_, ?_, ?_, ?_, ?_⟩
      · rw [e4, cui_o (by decide), e2, cui_o (by decide)]; exact i1
      · rw [e4, cui_o (by decide), e2, cui_o (by decide)]; exact i2
      · rw [e4, cui_o (by decide), e2, cui_o (by decide)]; exact i3
      · rw [e4, cui_o (by decide), e2, cui_n (by omega)]; exact i4
      · rw [e4, cui_n (by omega), e2, cui_o (by decide)]; exact i5
  refine dA_mono (dA_and hx (dA_and (c_endSum q) (dA_of (ok_X7_endSum_s25 q g1.1)))) (fun o w => ?_)
  obtain ⟨w1, w4, w5, w6⟩ := w
  exact ⟨⟨g1.s w5 w6 (by decide) (by decide) (by decide), g2.s w4, g3.s w4, by rw [w6.1 25 7 (by decide) (by decide)]; exact g4, g6, g7⟩, w1, fun i => congrFun (w6.row 31 (by decide) (by decide)) i⟩
theorem x_endT (q0 q : dK) {t a b c c0 j : Nat} {l kd tm : Int} (h : XS B n T ps es oo q t c 0 l) (hj : XJ q0 q j kd tm a b c0) (hj12 : j < 12) : dAll (zX7_endTest_s25 q) (fun o => XS B n T ps es oo o t c 0 l ∧ XJ q0 o j kd tm a b c ∧ ∀ i : Nat, o.1 31 i = q.1 31 i) := by
  obtain ⟨g1, g2, g3, g4, g6, g7⟩ := h
  have d1 : Int32.toInt 1 = 1 := by decide
  have d0 : Int32.toInt 0 = 0 := by decide
  obtain ⟨j1, j2, j3, j4, j5, j6, j7⟩ := hj
  have tj : Int32.toInt ((q.1 25 6) - 1 : Int32) = (j : Int) := by rw [ti_sub j1 d1 (by omega) (by omega)]; omega
  have nj := cl_eq (i := ((q.1 25 6) - 1 : Int32)) (by omega)
  have ej : Int32.toNatClampNeg ((q.1 25 6) - 1 : Int32) = j := by omega
  have hx : dAll (zX7_endTest_s25 q) (fun o => XJ q0 o j kd tm a b c) := by
    unfold zX7_endTest_s25 zX7_endTest_s25_22
    refine dA_le (fun c => by omega) (fun _ => dA_G (fun _ => dA_L (fun q2 e2 => dA_some ?_)))
    rw [ej] at e2
    refine ⟨?_, ?_, ?_, ?_, ?_, ?_, fun i hi => ?_⟩
    · rw [e2, cui_o (by decide)]; exact j1
    · rw [e2, cui_o (by decide)]; exact j2
    · rw [e2, cui_o (by decide)]; exact j3
    · rw [e2, cui_o (by decide)]; exact j4
    · rw [e2, cui_o (by decide)]; exact j5
    · rw [e2, cui_e]; exact g4
    · obtain ⟨i1, i2, i3, i4, i5⟩ := j7 i hi
      refine ⟨?_, ?_, ?_, ?_, ?_⟩
      · rw [e2, cui_o (by decide)]; exact i1
      · rw [e2, cui_o (by decide)]; exact i2
      · rw [e2, cui_o (by decide)]; exact i3
      · rw [e2, cui_o (by decide)]; exact i4
      · rw [e2, cui_n (by omega)]; exact i5
  refine dA_mono (dA_and hx (dA_and (c_endTest q) (dA_of (ok_X7_endTest_s25 q g1.1)))) (fun o w => ?_)
  obtain ⟨w1, w4, w5, w6⟩ := w
  exact ⟨⟨g1.s w5 w6 (by decide) (by decide) (by decide), g2.s w4, g3.s w4, by rw [w6.1 25 7 (by decide) (by decide)]; exact g4, g6, g7⟩, w1, fun i => congrFun (w6.row 31 (by decide) (by decide)) i⟩
theorem x_setT (q0 q : dK) (p1 : Int32) {t a b c c0 j : Nat} {l kd tm : Int} (h : XS B n T ps es oo q t c0 0 l) (hj : XJ q0 q j kd tm a b c) (hj12 : j < 12) : dAll (zX7_setTimes_s25 q p1) (fun o => XS B n T ps es oo o t c0 0 l ∧ XJ q0 o j kd (Int32.toInt p1) a b c ∧ ∀ i : Nat, o.1 31 i = q.1 31 i) := by
  obtain ⟨g1, g2, g3, g4, g6, g7⟩ := h
  have d1 : Int32.toInt 1 = 1 := by decide
  have d0 : Int32.toInt 0 = 0 := by decide
  obtain ⟨j1, j2, j3, j4, j5, j6, j7⟩ := hj
  have tj : Int32.toInt ((q.1 25 6) - 1 : Int32) = (j : Int) := by rw [ti_sub j1 d1 (by omega) (by omega)]; omega
  have nj := cl_eq (i := ((q.1 25 6) - 1 : Int32)) (by omega)
  have ej : Int32.toNatClampNeg ((q.1 25 6) - 1 : Int32) = j := by omega
  have hx : dAll (zX7_setTimes_s25 q p1) (fun o => XJ q0 o j kd (Int32.toInt p1) a b c) := by
    unfold zX7_setTimes_s25 zX7_setTimes_s25_19
    refine dA_le (fun c => by omega) (fun _ => dA_G (fun _ => dA_L (fun q2 e2 => dA_some ?_)))
    rw [ej] at e2
    refine ⟨?_, ?_, ?_, ?_, ?_, ?_, fun i hi => ?_⟩
    · rw [e2, cui_o (by decide)]; exact j1
    · rw [e2, cui_o (by decide)]; exact j2
    · rw [e2, cui_e]
    · rw [e2, cui_o (by decide)]; exact j4
    · rw [e2, cui_o (by decide)]; exact j5
    · rw [e2, cui_o (by decide)]; exact j6
    · obtain ⟨i1, i2, i3, i4, i5⟩ := j7 i hi
      refine ⟨?_, ?_, ?_, ?_, ?_⟩
      · rw [e2, cui_o (by decide)]; exact i1
      · rw [e2, cui_n (by omega)]; exact i2
      · rw [e2, cui_o (by decide)]; exact i3
      · rw [e2, cui_o (by decide)]; exact i4
      · rw [e2, cui_o (by decide)]; exact i5
  refine dA_mono (dA_and hx (dA_and (c_times q p1) (dA_of (ok_X7_setTimes_s25 q p1 g1.1)))) (fun o w => ?_)
  obtain ⟨w1, w4, w5, w6⟩ := w
  exact ⟨⟨g1.s w5 w6 (by decide) (by decide) (by decide), g2.s w4, g3.s w4, by rw [w6.1 25 7 (by decide) (by decide)]; exact g4, g6, g7⟩, w1, fun i => congrFun (w6.row 31 (by decide) (by decide)) i⟩
/-- the test, if there is one -/
theorem x_103 (hK : TKS B n T ps es cs vs) (hW : (oo = 0 ∧ W = 9) ∨ (oo = 1 ∧ W = 17)) (q0 q : dK) {v a b j : Nat} {l kd tm : Int} (h : XS B n T ps es oo q v b 0 l) (hb : b < v + 1) (hj : XJ q0 q j kd tm a b b) (hj12 : j < 12) : dAll (zX4_readClause_s24_103 q) (fun o => (∃ f : Int, CF o f) ∨ ∃ (w c : Nat) (l2 : Int) (g : VF), XS B n T ps es oo o w c 0 l2 ∧ v ≤ w ∧ b ≤ c ∧ c + v ≤ w + b ∧ XJ q0 o j kd tm a b c ∧ (∀ i : Nat, i < b → o.1 31 i = q.1 31 i) ∧ ((cs v = 4 ∧ Sp oo cs vs 6 (v + 1) w g ∧ ex6 cs w ∧ Cd (o.1 31) W b c 20 1 g) ∨ (¬ cs v = 4 ∧ w = v ∧ b = c))) := by
  have d0 : Int32.toInt 0 = 0 := by decide
  unfold zX4_readClause_s24_103 zX4_readClause_s24_135
  refine dA_if (fun _ => dA_B (c_wd7 hK q h.2.1 h.2.2.1) (fun r1 q3 w => ?_)) (fun c => absurd h.2.2.1.1 c)
  obtain ⟨w1, w2⟩ := w
  replace w1 : q3 = q := w1
  replace w2 : (Int32.toInt r1 = 1 ∧ cs v = 4) ∨ (Int32.toInt r1 = 0 ∧ ¬ cs v = 4) := w2
  subst w1
  rcases w2 with ⟨w2, w3⟩ | ⟨w2, w3⟩
  · refine dA_eq (fun _ c => by omega) (fun _ _ => ?_)
    refine dA_V (x_step5 hK q3 h (cs_lt hK h.2.2.1.2.1 (by omega))) (fun q6 y => ?_)
    have r9 := rg_24_9 y.1.1.1
    refine dA_V (dA_and (x_testN hK hW 10 q6 (v + 1) b 0 l y.1 hb) (dA_of (ok_X4_readTest_s24 10 q6 y.1.1.1 y.1.1.2.1 y.1.1.2.2 (by omega)))) (fun q9 R => dA_G (fun _ => ?_))
    obtain ⟨R, R1, R2, R3⟩ := R
    rcases R with ⟨f, hcf⟩ | ⟨u, c, l2, g, k1, k2, k3, k4, k5, k6, k7, k8⟩
    · exact dA_V (c_endTest q9) (fun o cc => dA_some (Or.inl ⟨f, hcf.s cc⟩))
    · have hj9 : XJ q0 q9 j kd tm a b b := (hj.s y.2.2).s ⟨R2.row 26 (by decide) (by decide), R2.row 27 (by decide) (by decide), R2.row 28 (by decide) (by decide), R2.row 29 (by decide) (by decide), R2.row 30 (by decide) (by decide), R2.1 25 6 (by decide) (by decide)⟩
      refine dA_V (x_endT q0 q9 k1 hj9 hj12) (fun o z => dA_some (Or.inr ⟨u, c, l2, g, z.1, by omega, by omega, by omega, z.2.1, fun i hi => by rw [z.2.2 i, k5 i hi, y.2.1 i], Or.inl ⟨w3, k6, k8, (k7.fr (fun i _ _ => z.2.2 i)).up (by decide)⟩⟩))
  · exact dA_eq (fun _ _ => dA_some (Or.inr ⟨v, b, l, vK 0, h, by omega, by omega, by omega, hj, fun _ _ => rfl, Or.inr ⟨w3, rfl, rfl⟩⟩)) (fun _ c => absurd (w2.trans d0.symm) c)
/-- behind a fault -/
theorem f_c103 (q : dK) {f : Int} (h : CF q f) : dAll (zX4_readClause_s24_103 q) (fun o => CF o f) := by
  unfold zX4_readClause_s24_103 zX4_readClause_s24_135
  exact dA_if (fun c => absurd c (i32_ne h.1 h.2)) (fun _ => dA_some h)
theorem f_c71 (q : dK) {f : Int} (h : CF q f) : dAll (zX4_readClause_s24_71 q) (fun o => CF o f) := by
  unfold zX4_readClause_s24_71
  exact dA_if (fun _ => f_c103 q h) (fun _ => dA_if (fun c => absurd c (i32_ne h.1 h.2)) (fun _ => f_c103 q h))
theorem x_71 (hK : TKS B n T ps es cs vs) (hW : (oo = 0 ∧ W = 9) ∨ (oo = 1 ∧ W = 17)) (q0 q : dK) {u a b j : Nat} {l kd : Int} (h : XS B n T ps es oo q u b 0 l) (hb : b < u + 1) (hj : XJ q0 q j kd 1 a b b) (hj12 : j < 12) : dAll (zX4_readClause_s24_71 q) (fun o => (∃ f : Int, CF o f) ∨ ∃ (v w c : Nat) (l2 : Int) (tm : Int) (g : VF), XS B n T ps es oo o w c 0 l2 ∧ u ≤ v ∧ v ≤ w ∧ b ≤ c ∧ c + u ≤ w + b ∧ XJ q0 o j kd tm a b c ∧ (∀ i : Nat, i < b → o.1 31 i = q.1 31 i) ∧ ((oo = 1 ∧ cs u = 26 ∧ cs (u + 1) = 50 ∧ 1 ≤ vs (u + 1) ∧ vs (u + 1) ≤ 20 ∧ tm = vs (u + 1) ∧ v = u + 2) ∨ (¬ (oo = 1 ∧ cs u = 26) ∧ tm = 1 ∧ v = u)) ∧ ((cs v = 4 ∧ Sp oo cs vs 6 (v + 1) w g ∧ ex6 cs w ∧ Cd (o.1 31) W b c 20 1 g) ∨ (¬ cs v = 4 ∧ w = v ∧ b = c))) := by
  have d0 : Int32.toInt 0 = 0 := by decide
  have d1 : Int32.toInt 1 = 1 := by decide
  have d2' : Int32.toInt 2 = 2 := by decide
  have d20 : Int32.toInt 20 = 20 := by decide
  have e2 : Int32.toInt (q.1 24 2) = oo := h.2.1.2.2
  have h103 : ¬ (oo = 1 ∧ cs u = 26) → dAll (zX4_readClause_s24_103 q) (fun o => (∃ f : Int, CF o f) ∨ ∃ (v w c : Nat) (l2 : Int) (tm : Int) (g : VF), XS B n T ps es oo o w c 0 l2 ∧ u ≤ v ∧ v ≤ w ∧ b ≤ c ∧ c + u ≤ w + b ∧ XJ q0 o j kd tm a b c ∧ (∀ i : Nat, i < b → o.1 31 i = q.1 31 i) ∧ ((oo = 1 ∧ cs u = 26 ∧ cs (u + 1) = 50 ∧ 1 ≤ vs (u + 1) ∧ vs (u + 1) ≤ 20 ∧ tm = vs (u + 1) ∧ v = u + 2) ∨ (¬ (oo = 1 ∧ cs u = 26) ∧ tm = 1 ∧ v = u)) ∧ ((cs v = 4 ∧ Sp oo cs vs 6 (v + 1) w g ∧ ex6 cs w ∧ Cd (o.1 31) W b c 20 1 g) ∨ (¬ cs v = 4 ∧ w = v ∧ b = c))) := by
    intro hn
    refine dA_mono (x_103 hK hW q0 q h hb hj hj12) (fun o z => ?_)
    rcases z with z | ⟨w, c, l2, g, z1, z2, z3, z4, z5, z6, z7⟩
    · exact Or.inl z
    · exact Or.inr ⟨u, w, c, l2, 1, g, z1, Nat.le_refl _, z2, z3, z4, z5, z6, Or.inr ⟨hn, rfl, rfl⟩, z7⟩
  unfold zX4_readClause_s24_71
  refine dA_eq (fun _ c => h103 (fun z => by omega)) (fun _ c2 => dA_if (fun _ => dA_B (c_wd6 hK q h.2.1 h.2.2.1) (fun r1 q3 w => ?_)) (fun c => absurd h.2.2.1.1 c))
  have o1 : oo = 1 := by
    rcases hW with y | y
    · omega
    · exact y.1
  obtain ⟨w1, w2⟩ := w
  replace w1 : q3 = q := w1
  replace w2 : (Int32.toInt r1 = 1 ∧ cs u = 26) ∨ (Int32.toInt r1 = 0 ∧ ¬ cs u = 26) := w2
  subst w1
  rcases w2 with ⟨w2, w3⟩ | ⟨w2, w3⟩
  · refine dA_eq (fun _ c => by omega) (fun _ _ => ?_)
    refine dA_V (x_step5 hK q3 h (cs_lt hK h.2.2.1.2.1 (by omega))) (fun q6 y => ?_)
    have hj6 := hj.s y.2.2
    obtain ⟨k1, k2, k3⟩ := tk_num hK y.1.2.2.1
    have hF : dAll (zX4_readTimes_s24_25 q6) (fun o => ∃ f : Int, CF o f) := by
      unfold zX4_readTimes_s24_25
      exact dA_V (c_fail q6 y.1.2.2.1) (fun o w => dA_some ⟨_, w⟩)
    have hT : dAll (zX4_readTimes_s24 q6) (fun o => (∃ f : Int, CF o f) ∨ (cs (u + 1) = 50 ∧ 1 ≤ vs (u + 1) ∧ vs (u + 1) ≤ 20 ∧ XS B n T ps es oo o (u + 2) b 0 l ∧ XJ q0 o j kd (vs (u + 1)) a b b ∧ ∀ i : Nat, o.1 31 i = q3.1 31 i)) := by
      unfold zX4_readTimes_s24
      refine dA_eq (fun _ c => dA_lt (fun _ => dA_mono hF (fun o w => Or.inl w)) (fun cl => dA_le (fun ch => dA_G (fun _ => ?_)) (fun _ => dA_mono hF (fun o w => Or.inl w)))) (fun _ _ => dA_mono hF (fun o w => Or.inl w))
      have c50 : cs (u + 1) = 50 := k1.mp (by omega)
      obtain ⟨j1, j2, j3, j4⟩ := k3 c50
      have v20 : vs (u + 1) ≤ 20 := (j2 20 (by decide)).mp (by omega)
      have e7 : Int32.toInt (q6.1 24 7) = vs (u + 1) := j3 (by omega)
      refine dA_V (x_setT q0 q6 (q6.1 24 7) y.1 hj6 hj12) (fun q4 z => ?_)
      refine dA_V (x_step5 hK q4 z.1 j1) (fun o z2 => dA_some (Or.inr ⟨c50, by omega, v20, z2.1, ?_, fun i => by rw [z2.2.1 i, z.2.2 i, y.2.1 i]⟩))
      have k := z.2.1.s z2.2.2
      rw [e7] at k
      exact k
    refine dA_V hT (fun q9 R => ?_)
    rcases R with ⟨f, hcf⟩ | ⟨c50, v1, v20, k4, k5, k6⟩
    · exact dA_mono (f_c103 q9 hcf) (fun o w => Or.inl ⟨f, w⟩)
    · refine dA_mono (x_103 hK hW q0 q9 k4 (by omega) k5 hj12) (fun o z => ?_)
      rcases z with z | ⟨w, c, l2, g, z1, z2, z3, z4, z5, z6, z7⟩
      · exact Or.inl z
      · exact Or.inr ⟨u + 2, w, c, l2, vs (u + 1), g, z1, by omega, z2, z3, by omega, z5, fun i hi => by rw [z6 i hi, k6 i], Or.inl ⟨o1, w3, c50, v1, v20, rfl, rfl⟩, z7⟩
  · exact dA_eq (fun _ _ => h103 (fun z => w3 z.2)) (fun _ c => absurd (w2.trans d0.symm) c)
theorem f_c60 (q : dK) {f : Int} (h : CF q f) : dAll (zX4_readClause_s24_60 q) (fun o => CF o f) := by
  unfold zX4_readClause_s24_60
  exact dA_V (f_sumN 10 q h) (fun q3 w => dA_G (fun _ => dA_V (c_endSum q3) (fun q7 cc => f_c71 q7 (w.s cc))))
theorem x_clause (hK : TKS B n T ps es cs vs) (hW : (oo = 0 ∧ W = 9) ∨ (oo = 1 ∧ W = 17)) (q : dK) {t a j : Nat} {l : Int} (h : XS B n T ps es oo q t a 0 l) (ha : a ≤ t) (hj : Int32.toInt (q.1 25 6) = (j : Int)) (hj12 : j < 12) : dAll (zX4_readClause_s24 q) (fun o => (∃ f : Int, CF o f) ∨ ∃ (w b c : Nat) (l2 kd tm : Int), XS B n T ps es oo o w c 0 l2 ∧ t < w ∧ a ≤ b ∧ b ≤ c ∧ c + t < w + a ∧ XJ q o j kd tm a b c ∧ (∀ i : Nat, i < a → o.1 31 i = q.1 31 i) ∧ CLR oo W cs vs (o.1 31) kd tm a b c t w) := by
  have d0 : Int32.toInt 0 = 0 := by decide
  have d3 : Int32.toInt 3 = 3 := by decide
  have dm : Int32.toInt (-1) = -1 := by decide
  have e2 : Int32.toInt (q.1 24 2) = oo := h.2.1.2.2
  -- a clause without a sum, with one
  have h71 : ∀ (q7 q10 : dK) (kd : Int), XS B n T ps es oo q10 (t + 1) a 0 l → XJ q q10 j kd 1 a a a → (∀ i : Nat, q10.1 31 i = q.1 31 i) → ((oo = 0 ∧ 0 ≤ kd ∧ kd < 3 ∧ cs t = kd + 1) ∨ (oo = 1 ∧ 0 ≤ kd ∧ kd < 4 ∧ cs t = 22 + kd)) → ((oo = 0 ∧ ¬ kd = 0) ∨ (oo = 1 ∧ kd = 3)) → dAll (zX4_readClause_s24_71 q10) (fun o => (∃ f : Int, CF o f) ∨ ∃ (w b c : Nat) (l2 kd tm : Int), XS B n T ps es oo o w c 0 l2 ∧ t < w ∧ a ≤ b ∧ b ≤ c ∧ c + t < w + a ∧ XJ q o j kd tm a b c ∧ (∀ i : Nat, i < a → o.1 31 i = q.1 31 i) ∧ CLR oo W cs vs (o.1 31) kd tm a b c t w) := by
    intro q7 q10 kd k1 k2 k3 k4 k5
    refine dA_mono (x_71 hK hW q q10 k1 (by omega) k2 hj12) (fun o z => ?_)
    rcases z with z | ⟨v, w, c, l2, tm, g, z1, z2, z3, z4, z5, z6, z7, z8, z9⟩
    · exact Or.inl z
    · exact Or.inr ⟨w, a, c, l2, kd, tm, z1, by omega, Nat.le_refl _, z4, by omega, z6, fun i hi => by rw [z7 i hi, k3 i], t + 1, v, vK 0, g, k4, Or.inr ⟨k5, rfl, rfl⟩, z8, z9⟩
  have h60 : ∀ (q10 : dK) (kd : Int), XS B n T ps es oo q10 (t + 1) a 0 l → XJ q q10 j kd 1 a a a → (∀ i : Nat, q10.1 31 i = q.1 31 i) → ((oo = 0 ∧ 0 ≤ kd ∧ kd < 3 ∧ cs t = kd + 1) ∨ (oo = 1 ∧ 0 ≤ kd ∧ kd < 4 ∧ cs t = 22 + kd)) → ((oo = 0 ∧ kd = 0) ∨ (oo = 1 ∧ ¬ kd = 3)) → dAll (zX4_readClause_s24_60 q10) (fun o => (∃ f : Int, CF o f) ∨ ∃ (w b c : Nat) (l2 kd tm : Int), XS B n T ps es oo o w c 0 l2 ∧ t < w ∧ a ≤ b ∧ b ≤ c ∧ c + t < w + a ∧ XJ q o j kd tm a b c ∧ (∀ i : Nat, i < a → o.1 31 i = q.1 31 i) ∧ CLR oo W cs vs (o.1 31) kd tm a b c t w) := by
    intro q10 kd k1 k2 k3 k4 k5
    unfold zX4_readClause_s24_60
    have r9 := rg_24_9 k1.1.1
    refine dA_V (dA_and (x_sumN hK hW 10 q10 (t + 1) a 0 l k1 (by omega)) (dA_of (ok_X4_readSum_s24 10 q10 k1.1.1 k1.1.2.1 k1.1.2.2 (by omega)))) (fun q3 R => dA_G (fun _ => ?_))
    obtain ⟨R, R1, R2, R3⟩ := R
    rcases R with ⟨f, hcf⟩ | ⟨u, b, l2, f, m1, m2, m3, m4, m5, m6, m7, m8⟩
    · exact dA_V (c_endSum q3) (fun q7 cc => dA_mono (f_c71 q7 (hcf.s cc)) (fun o w => Or.inl ⟨f, w⟩))
    · have hj3 : XJ q q3 j kd 1 a a a := k2.s ⟨R2.row 26 (by decide) (by decide), R2.row 27 (by decide) (by decide), R2.row 28 (by decide) (by decide), R2.row 29 (by decide) (by decide), R2.row 30 (by decide) (by decide), R2.1 25 6 (by decide) (by decide)⟩
      refine dA_V (x_endS q q3 m1 hj3 hj12) (fun q7 y => ?_)
      refine dA_mono (x_71 hK hW q q7 y.1 (by omega) y.2.1 hj12) (fun o z => ?_)
      rcases z with z | ⟨v, w, c, l3, tm, g, z1, z2, z3, z4, z5, z6, z7, z8, z9⟩
      · exact Or.inl z
      · exact Or.inr ⟨w, b, c, l3, kd, tm, z1, by omega, by omega, z4, by omega, z6, fun i hi => by rw [z7 i (by omega), y.2.2 i, m5 i hi, k3 i], u, v, f, g, k4, Or.inl ⟨k5, m6, m8, (m7.fr (fun i i1 i2 => by rw [z7 i i2, y.2.2 i])).up (by decide)⟩, z8, z9⟩
  -- behind the clause's first word
  have hgo : ∀ (r1 : Int32) (q3 : dK), q3 = q → ((Int32.toInt r1 = -1 ∧ True) ∨ ((oo = 0 ∧ 0 ≤ Int32.toInt r1 ∧ Int32.toInt r1 < 3 ∧ cs t = Int32.toInt r1 + 1) ∨ (oo = 1 ∧ 0 ≤ Int32.toInt r1 ∧ Int32.toInt r1 < 4 ∧ cs t = 22 + Int32.toInt r1))) → dAll (if r1 = (-1) then dV (zX4_fail_s24 q3) (fun q13 => some q13) else dG (dnz (q3.1 24 3)) (dV (zX7_beginClause_s25 q3 r1) (fun q7 => dV (zX4_step_s24 q7) (fun q10 => if (q10.1 24 2) = 0 then if r1 = 0 then zX4_readClause_s24_60 q10 else zX4_readClause_s24_71 q10 else if r1 = 3 then zX4_readClause_s24_71 q10 else zX4_readClause_s24_60 q10)))) (fun o => (∃ f : Int, CF o f) ∨ ∃ (w b c : Nat) (l2 kd tm : Int), XS B n T ps es oo o w c 0 l2 ∧ t < w ∧ a ≤ b ∧ b ≤ c ∧ c + t < w + a ∧ XJ q o j kd tm a b c ∧ (∀ i : Nat, i < a → o.1 31 i = q.1 31 i) ∧ CLR oo W cs vs (o.1 31) kd tm a b c t w) := by
    intro r1 q3 e3 hr
    subst e3
    refine dA_eq (fun _ _ => dA_V (c_fail q3 h.2.2.1) (fun o w => dA_some (Or.inl ⟨_, w⟩))) (fun _ c => dA_G (fun _ => ?_))
    have hr2 : (oo = 0 ∧ 0 ≤ Int32.toInt r1 ∧ Int32.toInt r1 < 3 ∧ cs t = Int32.toInt r1 + 1) ∨ (oo = 1 ∧ 0 ≤ Int32.toInt r1 ∧ Int32.toInt r1 < 4 ∧ cs t = 22 + Int32.toInt r1) := by
      rcases hr with hr | hr
      · exact absurd (hr.1.trans dm.symm) c
      · exact hr
    refine dA_V (x_begin q3 r1 h hj hj12) (fun q7 y => ?_)
    refine dA_V (x_step5 hK q7 y.1 (cs_lt hK h.2.2.1.2.1 (by omega))) (fun q10 z => ?_)
    have hj10 := y.2.1.s z.2.2
    have f10 : ∀ i : Nat, q10.1 31 i = q3.1 31 i := fun i => by rw [z.2.1 i, y.2.2 i]
    have e10 : Int32.toInt (q10.1 24 2) = oo := z.1.2.1.2.2
    refine dA_eq (fun _ c2 => dA_eq (fun _ c3 => h60 q10 _ z.1 hj10 f10 hr2 (Or.inl ⟨by omega, by omega⟩)) (fun _ c3 => h71 q7 q10 _ z.1 hj10 f10 hr2 (Or.inl ⟨by omega, by omega⟩))) (fun _ c2 => dA_eq (fun _ c3 => h71 q7 q10 _ z.1 hj10 f10 hr2 (Or.inr ⟨?_, by omega⟩)) (fun _ c3 => h60 q10 _ z.1 hj10 f10 hr2 (Or.inr ⟨?_, by omega⟩)))
    · rcases hW with w | w
      · omega
      · exact w.1
    · rcases hW with w | w
      · omega
      · exact w.1
  unfold zX4_readClause_s24
  refine dA_eq (fun _ c => ?_) (fun _ c => ?_)
  · have o0 : oo = 0 := by omega
    unfold zX4_readClause_s24_15
    refine dA_B (c_win1 hK q h.2.1 h.2.2.1) (fun r1 q3 w => hgo r1 q3 w.1 ?_)
    have w2 : (∃ j : Nat, j < 3 ∧ Int32.toInt r1 = (j : Int) ∧ cs t = ((wcd_1 j : Nat) : Int)) ∨ (Int32.toInt r1 = -1 ∧ ∀ j : Nat, j < 3 → ¬ cs t = ((wcd_1 j : Nat) : Int)) := w.2
    rcases w2 with ⟨i, i1, i2, i3⟩ | ⟨w2, -⟩
    · have hw : ∀ j : Nat, j < 3 → wcd_1 j = j + 1 := by decide
      rw [hw i i1] at i3
      exact Or.inr (Or.inl ⟨o0, by omega, by omega, by omega⟩)
    · exact Or.inl ⟨w2, trivial⟩
  · have o1 : oo = 1 := by
      rcases hW with y | y
      · omega
      · exact y.1
    refine dA_B (c_win0 hK q h.2.1 h.2.2.1) (fun r1 q3 w => hgo r1 q3 w.1 ?_)
    have w2 : (∃ j : Nat, j < 4 ∧ Int32.toInt r1 = (j : Int) ∧ cs t = ((wcd_0 j : Nat) : Int)) ∨ (Int32.toInt r1 = -1 ∧ ∀ j : Nat, j < 4 → ¬ cs t = ((wcd_0 j : Nat) : Int)) := w.2
    rcases w2 with ⟨i, i1, i2, i3⟩ | ⟨w2, -⟩
    · have hw : ∀ j : Nat, j < 4 → wcd_0 j = 22 + j := by decide
      rw [hw i i1] at i3
      exact Or.inr (Or.inr ⟨o1, by omega, by omega, by omega⟩)
    · exact Or.inl ⟨w2, trivial⟩
end X7

