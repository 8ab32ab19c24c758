/-- values lie within an int -/
def VBd (A : Nat → Int) (f : VF) : Prop := ∀ v : Int, f A = some v → -2147483648 ≤ v ∧ v ≤ 2147483647
theorem vB_bd {A : Nat → Int} {o : Int} {f g : VF} : VBd A (vB o f g) := by
  intro v h
  cases hf : f A with
  | none => rw [vB_n1 hf] at h; cases h
  | some p =>
    cases hg : g A with
    | none => rw [vB_n2 hf hg] at h; cases h
    | some r =>
      rw [vB_s hf hg] at h
      have := jn_b h
      omega
theorem RV.bin {A : Nat → Int} {lv b0 b1 b2 b3 : Int32} {f g : VF} {o v w z : Int} (R1 : RV A lv b0 b1 f v) (R2 : RV A lv b1 b2 g w) (h0 : lv = 0 → b2 = 0 → b3 = 0) (h1 : ¬ b2 = 0 → ¬ b3 = 0) (h2 : ¬ lv = 0 → b2 = 0 → f A = some v → g A = some w → (jn o v w = some z ∧ b3 = 0) ∨ (jn o v w = none ∧ ¬ b3 = 0)) : RV A lv b0 b3 (vB o f g) z := by
  refine ⟨fun c d => h0 c (R2.1 c (R1.1 c d)), fun c => h1 (R2.2.1 (R1.2.1 c)), fun c d => ?_⟩
  rcases R1.2.2 c d with ⟨e1, e2⟩ | ⟨e1, e2⟩
  · rcases R2.2.2 c e2 with ⟨e3, e4⟩ | ⟨e3, e4⟩
    · rw [vB_s e1 e3]; exact h2 c e4 e1 e3
    · exact Or.inr ⟨vB_n2 e1 e3, h1 e4⟩
  · exact Or.inr ⟨vB_n1 e1, h1 (R2.2.1 e2)⟩
section X6
variable {oo : Int} {cs vs A : Nat → Int} {g0 T : Nat} {q0 : dS}
theorem e_t6b (hK : EK oo cs vs A g0 T q0) {kU : dS → Int32 → Option (Int64 × dS)} {k6 : dS → Int32 → Int64 → Option (Int64 × dS)} {Q : Int64 × dS → Prop} (q : dS) (x1 : Int32) (x2 : Int64) {u : Nat} (h : EG q0 g0 T q u) (h1 : cs u = 142 ∨ cs u = 147 ∨ cs u = 137 → dAll (zX10_termOf_54 kU k6 q x1 x2) Q) (h2 : ex1 cs u → dAll (some (x2, q)) Q) : dAll (zX10_termOf_6b kU k6 q x1 x2) Q := by
  unfold zX10_termOf_6b
  refine dA_B (e_code hK q h _ rfl) (fun r1 q1 z1 => dA_V (m_sign 42) (fun s1 e1 => ?_))
  obtain ⟨y1, w1⟩ := z1
  replace y1 : q1 = q := y1
  replace w1 : Int32.toInt r1 = cs u := w1
  subst y1
  have f1 : Int32.toInt s1 = 142 := by rw [e1]; decide
  refine dA_eq (fun _ c => h1 (Or.inl (by omega))) (fun _ c1 => ?_)
  refine dA_B (e_code hK q1 h _ rfl) (fun r2 q2 z2 => dA_V (m_sign 47) (fun s2 e2 => ?_))
  obtain ⟨y2, w2⟩ := z2
  replace y2 : q2 = q1 := y2
  replace w2 : Int32.toInt r2 = cs u := w2
  subst y2
  have f2 : Int32.toInt s2 = 147 := by rw [e2]; decide
  refine dA_eq (fun _ c => h1 (Or.inr (Or.inl (by omega)))) (fun _ c2 => ?_)
  refine dA_B (e_code hK q2 h _ rfl) (fun r3 q3 z3 => dA_V (m_sign 37) (fun s3 e3 => ?_))
  obtain ⟨y3, w3⟩ := z3
  replace y3 : q3 = q2 := y3
  replace w3 : Int32.toInt r3 = cs u := w3
  subst y3
  have f3 : Int32.toInt s3 = 137 := by rw [e3]; decide
  exact dA_eq (fun _ c => h1 (Or.inr (Or.inr (by omega)))) (fun _ c3 => h2 ⟨by omega, by omega, by omega⟩)
theorem e_s6b (hK : EK oo cs vs A g0 T q0) {kU : dS → Int32 → Option (Int64 × dS)} {k6 : dS → Int32 → Int64 → Option (Int64 × dS)} {Q : Int64 × dS → Prop} (q : dS) (x1 : Int32) (x2 : Int64) {u : Nat} (h : EG q0 g0 T q u) (h1 : cs u = 143 ∨ cs u = 145 → dAll (zX10_sumOf_38 kU k6 q x1 x2) Q) (h2 : ex2 cs u → dAll (some (x2, q)) Q) : dAll (zX10_sumOf_6b kU k6 q x1 x2) Q := by
  unfold zX10_sumOf_6b
  refine dA_B (e_code hK q h _ rfl) (fun r1 q1 z1 => dA_V (m_sign 43) (fun s1 e1 => ?_))
  obtain ⟨y1, w1⟩ := z1
  replace y1 : q1 = q := y1
  replace w1 : Int32.toInt r1 = cs u := w1
  subst y1
  have f1 : Int32.toInt s1 = 143 := by rw [e1]; decide
  refine dA_eq (fun _ c => h1 (Or.inl (by omega))) (fun _ c1 => ?_)
  refine dA_B (e_code hK q1 h _ rfl) (fun r2 q2 z2 => dA_V (m_sign 45) (fun s2 e2 => ?_))
  obtain ⟨y2, w2⟩ := z2
  replace y2 : q2 = q1 := y2
  replace w2 : Int32.toInt r2 = cs u := w2
  subst y2
  have f2 : Int32.toInt s2 = 145 := by rw [e2]; decide
  exact dA_eq (fun _ c => h1 (Or.inr (by omega))) (fun _ c2 => h2 ⟨by omega, by omega⟩)
/-- the levels -/
def EP0 (A : Nat → Int) (g0 T : Nat) (q0 : dS) (t u : Nat) (f : VF) : Prop := ∀ (n : Nat) (q : dS) (lv : Int32), EG q0 g0 T q t → dAll (zX10_partOf (zX10_sumOf n) q lv) (fun zo => EG q0 g0 T zo.2 u ∧ RV A lv (q.1 0 24) (zo.2.1 0 24) f (Int64.toInt zo.1))
def EP1 (A : Nat → Int) (g0 T : Nat) (q0 : dS) (t u : Nat) (f : VF) : Prop := ∀ (n : Nat) (q : dS) (lv : Int32) (Q : Int64 × dS → Prop), EG q0 g0 T q t → (∀ (m : Nat) (q2 : dS) (v : Int64), EG q0 g0 T q2 u → RV A lv (q.1 0 24) (q2.1 0 24) f (Int64.toInt v) → dAll (zX10_termOf_6 (zX10_sumOf n) m q2 lv v) Q) → dAll (zX10_termOf (zX10_sumOf n) q lv) Q
def EP2 (A : Nat → Int) (g0 T : Nat) (q0 : dS) (t u : Nat) (f : VF) : Prop := ∀ (n : Nat) (q : dS) (lv : Int32) (Q : Int64 × dS → Prop), EG q0 g0 T q t → (∀ (m : Nat) (q2 : dS) (v : Int64), EG q0 g0 T q2 u → RV A lv (q.1 0 24) (q2.1 0 24) f (Int64.toInt v) → dAll (zX10_sumOf_6 (zX10_sumOf n) m q2 lv v) Q) → dAll (zX10_sumOf_o (zX10_sumOf n) q lv) Q
def EP3 (A : Nat → Int) (g0 T : Nat) (q0 : dS) (t u : Nat) (f : VF) : Prop := ∀ (n : Nat) (q : dS) (lv : Int32), EG q0 g0 T q t → dAll (zX10_positiveOf (zX10_testOf n) q lv) (fun zo => EG q0 g0 T zo.2 u ∧ (zo.1 = 0 ∨ zo.1 = 1) ∧ RV A lv (q.1 0 24) (zo.2.1 0 24) f (Int32.toInt zo.1))
def EP4 (A : Nat → Int) (g0 T : Nat) (q0 : dS) (t u : Nat) (f : VF) : Prop := ∀ (n : Nat) (q : dS) (lv : Int32), EG q0 g0 T q t → dAll (zX10_plainOf (zX10_testOf n) q lv) (fun zo => EG q0 g0 T zo.2 u ∧ (zo.1 = 0 ∨ zo.1 = 1) ∧ RV A lv (q.1 0 24) (zo.2.1 0 24) f (Int32.toInt zo.1))
def EP5 (A : Nat → Int) (g0 T : Nat) (q0 : dS) (t u : Nat) (f : VF) : Prop := ∀ (n : Nat) (q : dS) (lv : Int32) (Q : Int32 × dS → Prop), EG q0 g0 T q t → (∀ (m : Nat) (q2 : dS) (v : Int32), EG q0 g0 T q2 u → (v = 0 ∨ v = 1) → RV A lv (q.1 0 24) (q2.1 0 24) f (Int32.toInt v) → dAll (zX10_bothOf_6 (zX10_testOf n) m q2 lv v) Q) → dAll (zX10_bothOf (zX10_testOf n) q lv) Q
def EP6 (A : Nat → Int) (g0 T : Nat) (q0 : dS) (t u : Nat) (f : VF) : Prop := ∀ (n : Nat) (q : dS) (lv : Int32) (Q : Int32 × dS → Prop), EG q0 g0 T q t → (∀ (m : Nat) (q2 : dS) (v : Int32), EG q0 g0 T q2 u → (v = 0 ∨ v = 1) → RV A lv (q.1 0 24) (q2.1 0 24) f (Int32.toInt v) → dAll (zX10_testOf_6 (zX10_testOf n) m q2 lv v) Q) → dAll (zX10_testOf_o (zX10_testOf n) q lv) Q
theorem e_termx (hK : EK oo cs vs A g0 T q0) {t u : Nat} {f : VF} (h : EP1 A g0 T q0 t u f) (hx : ex1 cs u) (n : Nat) (q : dS) (lv : Int32) (hE : EG q0 g0 T q t) : dAll (zX10_termOf (zX10_sumOf n) q lv) (fun zo => EG q0 g0 T zo.2 u ∧ RV A lv (q.1 0 24) (zo.2.1 0 24) f (Int64.toInt zo.1)) := by
  refine h n q lv _ hE (fun m q2 v h2 R => ?_)
  cases m with
  | zero => intro o e; cases e
  | succ m =>
    show dAll (zX10_termOf_6b (zX10_sumOf n) (fun q x1 x2 => zX10_termOf_6 (zX10_sumOf n) m q x1 x2) q2 lv v) _
    exact e_t6b hK q2 lv v h2 (fun z => by have := hx.1; have := hx.2.1; have := hx.2.2; omega) (fun _ => dA_some ⟨h2, R⟩)
theorem e_sumx (hK : EK oo cs vs A g0 T q0) {t u : Nat} {f : VF} (h : EP2 A g0 T q0 t u f) (hx : ex2 cs u) (n : Nat) (q : dS) (lv : Int32) (hE : EG q0 g0 T q t) : dAll (zX10_sumOf_o (zX10_sumOf n) q lv) (fun zo => EG q0 g0 T zo.2 u ∧ RV A lv (q.1 0 24) (zo.2.1 0 24) f (Int64.toInt zo.1)) := by
  refine h n q lv _ hE (fun m q2 v h2 R => ?_)
  cases m with
  | zero => intro o e; cases e
  | succ m =>
    show dAll (zX10_sumOf_6b (zX10_sumOf n) (fun q x1 x2 => zX10_sumOf_6 (zX10_sumOf n) m q x1 x2) q2 lv v) _
    exact e_s6b hK q2 lv v h2 (fun z => by have := hx.1; have := hx.2; omega) (fun _ => dA_some ⟨h2, R⟩)
theorem e_bothx (hK : EK oo cs vs A g0 T q0) {t u : Nat} {f : VF} (h : EP5 A g0 T q0 t u f) (hx : ex5 cs u) (n : Nat) (q : dS) (lv : Int32) (hE : EG q0 g0 T q t) : dAll (zX10_bothOf (zX10_testOf n) q lv) (fun zo => EG q0 g0 T zo.2 u ∧ (zo.1 = 0 ∨ zo.1 = 1) ∧ RV A lv (q.1 0 24) (zo.2.1 0 24) f (Int32.toInt zo.1)) := by
  refine h n q lv _ hE (fun m q2 v h2 h01 R => ?_)
  cases m with
  | zero => intro o e; cases e
  | succ m =>
    show dAll (zX10_bothOf_6b (zX10_testOf n) (fun q x1 x2 => zX10_bothOf_6 (zX10_testOf n) m q x1 x2) q2 lv v) _
    unfold zX10_bothOf_6b
    refine dA_B (e_pass hK q2 6 h2 (by decide)) (fun r1 q3 z => ?_)
    have z2 : (r1 = 1 ∧ cs u = Int32.toInt 6 ∧ EG q0 g0 T q3 (u + 1) ∧ q3.1 0 24 = q2.1 0 24) ∨ (r1 = 0 ∧ ¬ cs u = Int32.toInt 6 ∧ q3 = q2) := z
    rw [show Int32.toInt 6 = 6 by decide] at z2
    rcases z2 with z2 | ⟨z1, z2, z3⟩
    · exact absurd z2.2.1 hx
    · subst z3
      exact dA_if (fun _ => dA_G (fun _ => dA_some ⟨h2, h01, R⟩)) (fun c => absurd z1 c)
theorem e_testx (hK : EK oo cs vs A g0 T q0) {t u : Nat} {f : VF} (h : EP6 A g0 T q0 t u f) (hx : ex6 cs u) (n : Nat) (q : dS) (lv : Int32) (hE : EG q0 g0 T q t) : dAll (zX10_testOf_o (zX10_testOf n) q lv) (fun zo => EG q0 g0 T zo.2 u ∧ (zo.1 = 0 ∨ zo.1 = 1) ∧ RV A lv (q.1 0 24) (zo.2.1 0 24) f (Int32.toInt zo.1)) := by
  refine h n q lv _ hE (fun m q2 v h2 h01 R => ?_)
  cases m with
  | zero => intro o e; cases e
  | succ m =>
    show dAll (zX10_testOf_6b (zX10_testOf n) (fun q x1 x2 => zX10_testOf_6 (zX10_testOf n) m q x1 x2) q2 lv v) _
    unfold zX10_testOf_6b
    refine dA_B (e_pass hK q2 5 h2 (by decide)) (fun r1 q3 z => ?_)
    have z2 : (r1 = 1 ∧ cs u = Int32.toInt 5 ∧ EG q0 g0 T q3 (u + 1) ∧ q3.1 0 24 = q2.1 0 24) ∨ (r1 = 0 ∧ ¬ cs u = Int32.toInt 5 ∧ q3 = q2) := z
    rw [show Int32.toInt 5 = 5 by decide] at z2
    rcases z2 with z2 | ⟨z1, z2, z3⟩
    · exact absurd z2.2.1 hx
    · subst z3
      exact dA_if (fun _ => dA_G (fun _ => dA_some ⟨h2, h01, R⟩)) (fun c => absurd z1 c)
/-- a leaf: what comes behind the bracket's test -/
theorem e_part (hK : EK oo cs vs A g0 T q0) {kU : dS → Int32 → Option (Int64 × dS)} {Q : Int64 × dS → Prop} (q : dS) (lv : Int32) {t : Nat} (h : EG q0 g0 T q t) (hc : ¬ cs t = 0) (h191 : ¬ cs t = 191) (hp : ∀ (r6 : Int32) (q9 : dS), EG q0 g0 T q9 (t + 1) → q9.1 0 24 = q.1 0 24 → Int32.toInt r6 = cs t → dAll (if (q9.1 0 25) = 0 then zX10_partOf_94 kU q9 lv r6 0 else if r6 = 21 then zX10_partOf_70 kU q9 lv r6 else if r6 = 15 then zX10_partOf_70 kU q9 lv r6 else zX10_partOf_94 kU q9 lv r6 0) Q) : dAll (zX10_partOf kU q lv) Q := by
  unfold zX10_partOf
  refine dA_V (m_sign 91) (fun r1 e1 => dA_B (e_pass hK q r1 h (by rw [e1]; decide)) (fun r3 q5 z => ?_))
  have f1 : Int32.toInt r1 = 191 := by rw [e1]; decide
  have z2 : (r3 = 1 ∧ cs t = Int32.toInt r1 ∧ EG q0 g0 T q5 (t + 1) ∧ q5.1 0 24 = q.1 0 24) ∨ (r3 = 0 ∧ ¬ cs t = Int32.toInt r1 ∧ q5 = q) := z
  rcases z2 with z2 | ⟨z1, z2, z3⟩
  · exact absurd (z2.2.1.trans f1) h191
  · subst z3
    refine dA_if (fun _ => dA_B (e_code hK q5 h _ rfl) (fun r6 q8 y => dA_L (fun q9 e9 => ?_))) (fun c => absurd z1 c)
    obtain ⟨y1, y2⟩ := y
    replace y1 : q8 = q5 := y1
    replace y2 : Int32.toInt r6 = cs t := y2
    subst y1
    have k := e_go hK q8 h (e_lt hK h.2.1 hc)
    rw [← e9] at k
    exact hp r6 q9 k.1 k.2 y2
theorem e_94 {kU : dS → Int32 → Option (Int64 × dS)} (q q9 : dS) (lv r6 x3 : Int32) {u : Nat} {f : VF} (h : EG q0 g0 T q9 u) (hb : q9.1 0 24 = q.1 0 24) (hv : dAll (if r6 = 50 then dG (dg ((2840 + (q9.1 0 22) : Int32) - 1 : Int32) 5640) (dL (q9.1 2 (Int32.toNatClampNeg ((2840 + (q9.1 0 22) : Int32) - 1 : Int32))) (fun v7 => some (Int32.toInt64 v7, q9))) else if (q9.1 0 25) = 0 then dG (dg (r6 - 8 : Int32) 9) (dL (q9.1 12 (Int32.toNatClampNeg (r6 - 8 : Int32))) (fun v2 => some (Int32.toInt64 v2, q9))) else dB (zX10_orderValue q9 r6 x3) (fun r3 q5 => some (Int32.toInt64 r3, q5))) (fun o => o.2 = q9 ∧ f A = some (Int64.toInt o.1))) : dAll (zX10_partOf_94 kU q9 lv r6 x3) (fun zo => EG q0 g0 T zo.2 u ∧ RV A lv (q.1 0 24) (zo.2.1 0 24) f (Int64.toInt zo.1)) := by
  unfold zX10_partOf_94 zX10_partOf_105 zX10_partOf_157
  refine dA_if (fun c0 => dA_some ⟨h, fun _ d => hb.trans d, fun d e => d (hb.symm.trans e), fun d => absurd c0 d⟩) (fun c0 => dA_if (fun c24 => dA_mono hv (fun o z => ?_)) (fun c24 => dA_some ⟨h, fun d => absurd d c0, fun d e => d (hb.symm.trans e), fun _ d => absurd (hb.trans d) c24⟩))
  refine ⟨by rw [z.1]; exact h, fun d => absurd d c0, fun d e => d (hb.symm.trans c24), fun _ _ => Or.inl ⟨z.2, by rw [z.1]; exact c24⟩⟩
theorem e_num (hK : EK oo cs vs A g0 T q0) {t : Nat} (hc : cs t = 50) : EP0 A g0 T q0 t (t + 1) (vK (vs t)) := by
  intro n q lv h
  have d1 : Int32.toInt 1 = 1 := by decide
  have d50 : Int32.toInt 50 = 50 := by decide
  have d2840 : Int32.toInt 2840 = 2840 := by decide
  have k1 := hK.1
  have ht := e_lt hK h.2.1 (by omega)
  refine e_part hK q lv h (by omega) (by omega) (fun r6 q9 h9 hb hr => ?_)
  have c21 : ¬ r6 = 21 := fun z => by rw [z, show Int32.toInt 21 = 21 by decide] at hr; omega
  have c15 : ¬ r6 = 15 := fun z => by rw [z, show Int32.toInt 15 = 15 by decide] at hr; omega
  have c50 : r6 = 50 := Int32.toInt_inj.mp (by omega)
  have h94 : dAll (zX10_partOf_94 (zX10_sumOf n) q9 lv r6 0) (fun zo => EG q0 g0 T zo.2 (t + 1) ∧ RV A lv (q.1 0 24) (zo.2.1 0 24) (vK (vs t)) (Int64.toInt zo.1)) := by
    refine e_94 q q9 lv r6 0 h9 hb (dA_if (fun _ => dA_G (fun _ => dA_L (fun v7 e7 => dA_some ⟨rfl, ?_⟩))) (fun c => absurd c50 c))
    have g22 := h9.2.2
    obtain ⟨ya, hya⟩ : ∃ y : Int32, (2840 + (q9.1 0 22) : Int32) = y := ⟨_, rfl⟩
    have ta : Int32.toInt ya = 2840 + ((g0 + (t + 1) : Nat) : Int) := by rw [← hya]; exact ti_add d2840 g22 (by omega) (by omega)
    rw [hya] at e7
    have tb : Int32.toInt (ya - 1 : Int32) = ((2840 + (g0 + t) : Nat) : Int) := by rw [ti_sub ta d1 (by omega) (by omega)]; omega
    have nb := cl_eq (i := (ya - 1 : Int32)) (by omega)
    show some (vs t) = some (Int64.toInt (Int32.toInt64 v7))
    rw [i2l, e7, show Int32.toNatClampNeg (ya - 1 : Int32) = 2840 + (g0 + t) by omega, h9.1.1 2 _ (by omega), (hK.2.1 t ht).2]
  exact dA_if (fun _ => h94) (fun _ => dA_if (fun c => absurd c c21) (fun _ => dA_if (fun c => absurd c c15) (fun _ => h94)))
theorem e_wl (hK : EK oo cs vs A g0 T q0) {t j : Nat} (ho : oo = 0) (hj : j < 9) (hc : cs t = ((wcd_3 j : Nat) : Int)) : EP0 A g0 T q0 t (t + 1) (vW j) := by
  intro n q lv h
  have d8 : Int32.toInt 8 = 8 := by decide
  have d50 : Int32.toInt 50 = 50 := by decide
  have hw : ∀ j : Nat, j < 9 → 8 ≤ wcd_3 j ∧ wcd_3 j ≤ 16 := by decide
  have hwj := hw j hj
  refine e_part hK q lv h (by omega) (by omega) (fun r6 q9 h9 hb hr => ?_)
  have e25 : q9.1 0 25 = 0 := Int32.toInt_inj.mp (by rw [h9.1.1 0 25 (by decide), hK.2.2.2.2.1, ho]; decide)
  refine dA_if (fun _ => ?_) (fun c => absurd e25 c)
  refine e_94 q q9 lv r6 0 h9 hb (dA_if (fun c => ?_) (fun _ => dA_if (fun _ => dA_G (fun _ => dA_L (fun v2 e2 => dA_some ⟨rfl, ?_⟩))) (fun c => absurd e25 c)))
  · exfalso
    rw [c, d50] at hr
    omega
  · have tb : Int32.toInt (r6 - 8 : Int32) = ((wcd_3 j - 8 : Nat) : Int) := by rw [ti_sub hr d8 (by omega) (by omega)]; omega
    have nb := cl_eq (i := (r6 - 8 : Int32)) (by omega)
    show some (A j) = some (Int64.toInt (Int32.toInt64 v2))
    rw [i2l, e2, show Int32.toNatClampNeg (r6 - 8 : Int32) = wcd_3 j - 8 by omega, h9.1.1 12 _ (by omega), hK.2.2.2.2.2.2.1 ho j hj]
theorem e_wo (hK : EK oo cs vs A g0 T q0) {t j : Nat} (ho : oo = 1) (hj : j < 5) (hc : cs t = ((wcd_2 j : Nat) : Int)) : EP0 A g0 T q0 t (t + 1) (vW j) := by
  intro n q lv h
  have d50 : Int32.toInt 50 = 50 := by decide
  have hw : ∀ j : Nat, j < 5 → 16 ≤ wcd_2 j ∧ wcd_2 j ≤ 20 := by decide
  have hwj := hw j hj
  refine e_part hK q lv h (by omega) (by omega) (fun r6 q9 h9 hb hr => ?_)
  have e25 : ¬ q9.1 0 25 = 0 := fun z => by
    have y := hK.2.2.2.2.1
    rw [← h9.1.1 0 25 (by decide), z, ho] at y
    exact absurd y (by decide)
  have c21 : ¬ r6 = 21 := fun z => by rw [z, show Int32.toInt 21 = 21 by decide] at hr; omega
  have c15 : ¬ r6 = 15 := fun z => by rw [z, show Int32.toInt 15 = 15 by decide] at hr; omega
  refine dA_if (fun c => absurd c e25) (fun _ => dA_if (fun c => absurd c c21) (fun _ => dA_if (fun c => absurd c c15) (fun _ => ?_)))
  refine e_94 q q9 lv r6 0 h9 hb (dA_if (fun c => ?_) (fun _ => dA_if (fun c => absurd c e25) (fun _ => dA_B ((hK.2.2.2.2.2.2.2 ho q9 h9.1).1 j r6 0 hj (hr.trans hc)) (fun r3 q5 z => dA_some ⟨z.1, ?_⟩))))
  · exfalso
    rw [c, d50] at hr
    omega
  · show some (A j) = some (Int64.toInt (Int32.toInt64 r3))
    have z2 : Int32.toInt r3 = A j := z.2
    rw [i2l, z2]
theorem e_wp (hK : EK oo cs vs A g0 T q0) {t x j : Nat} (ho : oo = 1) (hc : (cs t = 21 ∧ x = 5) ∨ (cs t = 15 ∧ x = 11)) (hc2 : cs (t + 1) = 50) (hv : vs (t + 1) = (j : Int)) (hj : j < 6) : EP0 A g0 T q0 t (t + 2) (vW (x + j)) := by
  intro n q lv h
  have d50 : Int32.toInt 50 = 50 := by decide
  have d21 : Int32.toInt 21 = 21 := by decide
  have d15 : Int32.toInt 15 = 15 := by decide
  have d2840 : Int32.toInt 2840 = 2840 := by decide
  have k1 := hK.1
  refine e_part hK q lv h (by omega) (by omega) (fun r6 q9 h9 hb hr => ?_)
  have e25 : ¬ q9.1 0 25 = 0 := fun z => by
    have y := hK.2.2.2.2.1
    rw [← h9.1.1 0 25 (by decide), z, ho] at y
    exact absurd y (by decide)
  have ht1 := e_lt hK h9.2.1 (by omega : ¬ cs (t + 1) = 0)
  have h70 : dAll (zX10_partOf_70 (zX10_sumOf n) q9 lv r6) (fun zo => EG q0 g0 T zo.2 (t + 2) ∧ RV A lv (q.1 0 24) (zo.2.1 0 24) (vW (x + j)) (Int64.toInt zo.1)) := by
    unfold zX10_partOf_70
    refine dA_G (fun _ => dA_L (fun v2 e2 => dA_L (fun q3 e3 => ?_)))
    have ta : Int32.toInt (2840 + (q9.1 0 22) : Int32) = ((2840 + (g0 + (t + 1)) : Nat) : Int) := by rw [ti_add d2840 h9.2.2 (by omega) (by omega)]; omega
    have na := cl_eq (i := (2840 + (q9.1 0 22) : Int32)) (by omega)
    have ev : Int32.toInt v2 = (j : Int) := by rw [e2, show Int32.toNatClampNeg (2840 + (q9.1 0 22) : Int32) = 2840 + (g0 + (t + 1)) by omega, h9.1.1 2 _ (by omega), (hK.2.1 (t + 1) ht1).2]; exact hv
    have k := e_go hK q9 h9 ht1
    rw [← e3] at k
    have e25b : ¬ q3.1 0 25 = 0 := by rw [e3, dui_n (by decide)]; exact e25
    refine e_94 q q3 lv r6 v2 k.1 (k.2.trans hb) (dA_if (fun c => ?_) (fun _ => dA_if (fun c => absurd c e25b) (fun _ => ?_)))
    · exfalso
      rw [c, d50] at hr
      omega
    · have ko := (hK.2.2.2.2.2.2.2 ho q3 k.1.1).2 j v2 hj ev
      rcases hc with ⟨c1, c2⟩ | ⟨c1, c2⟩
      · have e6 : r6 = 21 := Int32.toInt_inj.mp (by omega)
        subst e6 c2
        refine dA_B ko.1 (fun r3 q5 z => dA_some ⟨z.1, ?_⟩)
        show some (A (5 + j)) = some (Int64.toInt (Int32.toInt64 r3))
        have z2 : Int32.toInt r3 = A (5 + j) := z.2
        rw [i2l, z2]
      · have e6 : r6 = 15 := Int32.toInt_inj.mp (by omega)
        subst e6 c2
        refine dA_B ko.2 (fun r3 q5 z => dA_some ⟨z.1, ?_⟩)
        show some (A (11 + j)) = some (Int64.toInt (Int32.toInt64 r3))
        have z2 : Int32.toInt r3 = A (11 + j) := z.2
        rw [i2l, z2]
  refine dA_if (fun c => absurd c e25) (fun _ => dA_if (fun _ => h70) (fun c21 => dA_if (fun _ => h70) (fun c15 => ?_)))
  exfalso
  rcases hc with ⟨c1, c2⟩ | ⟨c1, c2⟩
  · exact c21 (Int32.toInt_inj.mp (by omega))
  · exact c15 (Int32.toInt_inj.mp (by omega))
theorem e_brk (hK : EK oo cs vs A g0 T q0) {t u : Nat} {f : VF} (h1 : cs t = 191) (h : EP2 A g0 T q0 (t + 1) u f) (h2 : cs u = 193) : EP0 A g0 T q0 t (u + 1) f := by
  intro n q lv hE
  unfold zX10_partOf
  refine dA_V (m_sign 91) (fun r1 e1 => dA_B (e_pass hK q r1 hE (by rw [e1]; decide)) (fun r3 q5 z => ?_))
  have f1 : Int32.toInt r1 = 191 := by rw [e1]; decide
  have z2 : (r3 = 1 ∧ cs t = Int32.toInt r1 ∧ EG q0 g0 T q5 (t + 1) ∧ q5.1 0 24 = q.1 0 24) ∨ (r3 = 0 ∧ ¬ cs t = Int32.toInt r1 ∧ q5 = q) := z
  rcases z2 with ⟨z1, z2, z3, z4⟩ | ⟨z1, z2, z3⟩
  · refine dA_if (fun c => absurd (z1.symm.trans c) (by decide)) (fun _ => ?_)
    cases n with
    | zero => exact dA_B (R := fun _ => False) (fun o e => by cases e) (fun _ _ w => absurd w id)
    | succ n =>
      refine dA_B (show dAll (zX10_sumOf (n + 1) q5 lv) _ from e_sumx hK h ⟨by omega, by omega⟩ n q5 lv z3) (fun r10 q12 w => dA_L (fun q13 e13 => dA_some ?_))
      obtain ⟨w1, w2⟩ := w
      replace w1 : EG q0 g0 T q12 u := w1
      replace w2 : RV A lv (q5.1 0 24) (q12.1 0 24) f (Int64.toInt r10) := w2
      have k := e_go hK q12 w1 (e_lt hK w1.2.1 (by omega))
      rw [← e13] at k
      refine ⟨k.1, ?_⟩
      show RV A lv (q.1 0 24) (q13.1 0 24) f (Int64.toInt r10)
      rw [k.2, ← z4]; exact w2
  · exact absurd (h1.trans f1.symm) z2
theorem e_up0 {t u : Nat} {f : VF} (h : EP0 A g0 T q0 t u f) : EP1 A g0 T q0 t u f := by
  intro n q lv Q hE hk
  unfold zX10_termOf
  exact dA_B (h n q lv hE) (fun r1 q3 z => hk dF q3 r1 z.1 z.2)
theorem e_up1 (hK : EK oo cs vs A g0 T q0) {t u : Nat} {f : VF} (h : EP1 A g0 T q0 t u f) (hx : ex1 cs u) : EP2 A g0 T q0 t u f := by
  intro n q lv Q hE hk
  unfold zX10_sumOf_o
  exact dA_B (e_termx hK h hx n q lv hE) (fun r1 q3 z => hk dF q3 r1 z.1 z.2)
theorem e_mul (hK : EK oo cs vs A g0 T q0) {t u w : Nat} {o : Int} {f g : VF} (hf : VBd A f) (hg : VBd A g) (h1 : EP1 A g0 T q0 t u f) (ho : (cs u = 142 ∧ o = 4) ∨ (cs u = 147 ∧ o = 5) ∨ (cs u = 137 ∧ o = 6)) (h2 : EP0 A g0 T q0 (u + 1) w g) : EP1 A g0 T q0 t w (vB o f g) := by
  intro n q lv Q hE hk
  refine h1 n q lv Q hE (fun m q2 v hE2 R => ?_)
  cases m with
  | zero => intro o2 e; cases e
  | succ m =>
    show dAll (zX10_termOf_6b (zX10_sumOf n) (fun q x1 x2 => zX10_termOf_6 (zX10_sumOf n) m q x1 x2) q2 lv v) Q
    refine e_t6b hK q2 lv v hE2 (fun _ => ?_) (fun z => by have := z.1; have := z.2.1; have := z.2.2; omega)
    unfold zX10_termOf_54
    refine dA_B (e_code hK q2 hE2 _ rfl) (fun r1 q3 z => dA_L (fun q4 e4 => ?_))
    obtain ⟨z1, z2⟩ := z
    replace z1 : q3 = q2 := z1
    replace z2 : Int32.toInt r1 = cs u := z2
    subst z1
    have k4 := e_go hK q3 hE2 (e_lt hK hE2.2.1 (by omega))
    rw [← e4] at k4
    refine dA_B (h2 n q4 lv k4.1) (fun r5 q7 z => dA_V (m_sign 42) (fun r8 e8 => ?_))
    obtain ⟨E7, R7⟩ := z
    replace E7 : EG q0 g0 T q7 w := E7
    replace R7 : RV A lv (q4.1 0 24) (q7.1 0 24) g (Int64.toInt r5) := R7
    rw [k4.2] at R7
    have f8 : Int32.toInt r8 = 142 := by rw [e8]; decide
    have h160 : ∀ (q8 : dS) (y : Int64), EG q0 g0 T q8 w → (lv = 0 → q7.1 0 24 = 0 → q8.1 0 24 = 0) → (¬ q7.1 0 24 = 0 → ¬ q8.1 0 24 = 0) → (¬ lv = 0 → q7.1 0 24 = 0 → f A = some (Int64.toInt v) → g A = some (Int64.toInt r5) → (q8.1 0 24 = 0 ∧ jn o (Int64.toInt v) (Int64.toInt r5) = jnR (Int64.toInt y)) ∨ (¬ q8.1 0 24 = 0 ∧ jn o (Int64.toInt v) (Int64.toInt r5) = none)) → dAll (zX10_termOf_160 (zX10_sumOf n) (fun q x1 x2 => zX10_termOf_6 (zX10_sumOf n) m q x1 x2) q8 lv y) Q := by
      intro q8 y E8 a1 a2 a3
      unfold zX10_termOf_160
      refine dA_B (e_bnd q8 y lv) (fun r q9 z => ?_)
      obtain ⟨b1, b2, b3, b4, b5⟩ := z
      replace b1 : ∀ j k : Nat, ¬ (j = 0 ∧ k = 24) → q9.1 j k = q8.1 j k := b1
      replace b2 : q9.2 = q8.2 := b2
      replace b3 : lv = 0 → q8.1 0 24 = 0 → q9.1 0 24 = 0 := b3
      replace b4 : ¬ q8.1 0 24 = 0 → ¬ q9.1 0 24 = 0 := b4
      replace b5 : ¬ lv = 0 → q8.1 0 24 = 0 → (jnR (Int64.toInt y) = some (Int64.toInt r) ∧ q9.1 0 24 = 0) ∨ (jnR (Int64.toInt y) = none ∧ ¬ q9.1 0 24 = 0) := b5
      refine hk m q9 r (E8.b b1 b2) (R.bin R7 (fun c d => b3 c (a1 c d)) (fun c => b4 (a2 c)) (fun c d e1 e2 => ?_))
      rcases a3 c d e1 e2 with ⟨c1, c2⟩ | ⟨c1, c2⟩
      · rw [c2]; exact b5 c c1
      · exact Or.inr ⟨c2, b4 c1⟩
    have h121 : ∀ (q8 : dS) (x5 : Int64), EG q0 g0 T q8 w → (lv = 0 → q7.1 0 24 = 0 → q8.1 0 24 = 0) → (¬ q7.1 0 24 = 0 → ¬ q8.1 0 24 = 0) → (¬ lv = 0 → q7.1 0 24 = 0 → (q8.1 0 24 = 0 ∧ x5 = r5 ∧ (cs u = 142 ∨ ¬ Int64.toInt r5 = 0)) ∨ (¬ q8.1 0 24 = 0 ∧ jn o (Int64.toInt v) (Int64.toInt r5) = none)) → dAll (zX10_termOf_121 (zX10_sumOf n) (fun q x1 x2 => zX10_termOf_6 (zX10_sumOf n) m q x1 x2) q8 lv v r1 x5) Q := by
      intro q8 x5 E8 a1 a2 a3
      unfold zX10_termOf_121
      refine dA_V (m_sign 42) (fun ra ea => ?_)
      have fa : Int32.toInt ra = 142 := by rw [ea]; decide
      refine dA_eq (fun _ c => h160 q8 _ E8 a1 a2 (fun d1 d2 e1 e2 => ?_)) (fun _ c => dA_V (m_sign 47) (fun rb eb => ?_))
      · rcases a3 d1 d2 with ⟨c1, c2, c3⟩ | c1
        · refine Or.inl ⟨c1, ?_⟩
          have o4 : o = 4 := by omega
          have bv := hf _ e1
          have bw := hg _ e2
          obtain ⟨x, hx, ex⟩ := l_of v bv.1 bv.2
          obtain ⟨y, hy, ey⟩ := l_of r5 bw.1 bw.2
          rw [o4, jn_4, c2, hx, hy, ar_mul, i2l, i2l]
        · exact Or.inr c1
      · have fb : Int32.toInt rb = 147 := by rw [eb]; decide
        refine dA_eq (fun _ c2 => dA_G (fun _ => h160 q8 _ E8 a1 a2 (fun d1 d2 e1 e2 => ?_))) (fun _ c2 => dA_G (fun _ => h160 q8 _ E8 a1 a2 (fun d1 d2 e1 e2 => ?_)))
        · rcases a3 d1 d2 with ⟨c1, c3, c4⟩ | c1
          · refine Or.inl ⟨c1, ?_⟩
            have o5 : o = 5 := by omega
            have nz : ¬ Int64.toInt r5 = 0 := by omega
            have bv := hf _ e1
            have bw := hg _ e2
            obtain ⟨x, hx, ex⟩ := l_of v bv.1 bv.2
            obtain ⟨y, hy, ey⟩ := l_of r5 bw.1 bw.2
            rw [o5, jn_5 nz, c3, hx, hy, j_tdiv, i2l, i2l]
          · exact Or.inr c1
        · rcases a3 d1 d2 with ⟨c1, c3, c4⟩ | c1
          · refine Or.inl ⟨c1, ?_⟩
            have o6 : o = 6 := by omega
            have nz : ¬ Int64.toInt r5 = 0 := by omega
            have bv := hf _ e1
            have bw := hg _ e2
            obtain ⟨x, hx, ex⟩ := l_of v bv.1 bv.2
            obtain ⟨y, hy, ey⟩ := l_of r5 bw.1 bw.2
            rw [o6, jn_6 nz, c3, hx, hy, ar_mod, i2l, i2l]
          · exact Or.inr c1
    refine dA_eq (fun _ c => h121 q7 r5 E7 (fun _ d => d) (fun d => d) (fun _ d => Or.inl ⟨d, rfl, Or.inl (by omega)⟩)) (fun _ c => dA_if (fun cz => ?_) (fun cz => h121 q7 r5 E7 (fun _ d => d) (fun d => d) (fun _ d => Or.inl ⟨d, rfl, Or.inr (fun y => ?_)⟩)))
    · have r50 : Int64.toInt r5 = 0 := by
        have L0 : Int64.toInt 0 = 0 := by decide
        rcases lgc r5 0 with ⟨w1, w2⟩ | ⟨w1, w2⟩ | ⟨w1, w2⟩
        · rw [w2] at cz; exact absurd cz (by decide)
        · omega
        · rw [w2] at cz; exact absurd cz (by decide)
      have h115 : ∀ y0 : Int32, (lv = 0 → q7.1 0 24 = 0 → y0 = 0) → (¬ q7.1 0 24 = 0 → ¬ y0 = 0) → (¬ lv = 0 → ¬ y0 = 0) → dAll (zX10_termOf_115 (zX10_sumOf n) (fun q x1 x2 => zX10_termOf_6 (zX10_sumOf n) m q x1 x2) q7 lv v r1 y0) Q := by
        intro y0 a1 a2 a3
        unfold zX10_termOf_115
        refine dA_G (fun _ => dA_L (fun q8 e8' => ?_))
        have e24 : q8.1 0 24 = y0 := by rw [e8', dui_e]
        have E8 : EG q0 g0 T q8 w := by
          rw [e8']
          exact ⟨E7.1.g (Or.inr rfl), E7.2.1, by rw [dui_n (by decide)]; exact E7.2.2⟩
        exact h121 q8 1 E8 (fun d1 d2 => by rw [e24]; exact a1 d1 d2) (fun d => by rw [e24]; exact a2 d) (fun d1 _ => Or.inr ⟨by rw [e24]; exact a3 d1, jn_50 (by omega) r50⟩)
      unfold zX10_termOf_110
      exact dA_if (fun c24 => dA_if (fun cl => h115 0 (fun _ _ => rfl) (fun d => absurd c24 d) (fun d => absurd cl d)) (fun cl => h115 1 (fun d => absurd d cl) (fun _ => by decide) (fun _ => by decide))) (fun c24 => h115 1 (fun _ d => absurd d c24) (fun _ => by decide) (fun _ => by decide))
    · have L0 : Int64.toInt 0 = 0 := by decide
      rcases lgc r5 0 with ⟨w1, w2⟩ | ⟨w1, w2⟩ | ⟨w1, w2⟩
      · omega
      · exact cz w2
      · omega
theorem e_add (hK : EK oo cs vs A g0 T q0) {t u w : Nat} {o : Int} {f g : VF} (hf : VBd A f) (hg : VBd A g) (h1 : EP2 A g0 T q0 t u f) (ho : (cs u = 143 ∧ o = 2) ∨ (cs u = 145 ∧ o = 3)) (h2 : EP1 A g0 T q0 (u + 1) w g) (hx : ex1 cs w) : EP2 A g0 T q0 t w (vB o f g) := by
  intro n q lv Q hE hk
  refine h1 n q lv Q hE (fun m q2 v hE2 R => ?_)
  cases m with
  | zero => intro o2 e; cases e
  | succ m =>
    show dAll (zX10_sumOf_6b (zX10_sumOf n) (fun q x1 x2 => zX10_sumOf_6 (zX10_sumOf n) m q x1 x2) q2 lv v) Q
    refine e_s6b hK q2 lv v hE2 (fun _ => ?_) (fun z => by have := z.1; have := z.2; omega)
    unfold zX10_sumOf_38
    refine dA_B (e_code hK q2 hE2 _ rfl) (fun r1 q3 z => dA_V (m_sign 43) (fun r4 e4 => ?_))
    obtain ⟨z1, z2⟩ := z
    replace z1 : q3 = q2 := z1
    replace z2 : Int32.toInt r1 = cs u := z2
    subst z1
    have f4 : Int32.toInt r4 = 143 := by rw [e4]; decide
    have h95 : ∀ (q7 : dS) (r5 y : Int64), EG q0 g0 T q7 w → RV A lv (q3.1 0 24) (q7.1 0 24) g (Int64.toInt r5) → (f A = some (Int64.toInt v) → g A = some (Int64.toInt r5) → jn o (Int64.toInt v) (Int64.toInt r5) = jnR (Int64.toInt y)) → dAll (zX10_sumOf_95 (zX10_sumOf n) (fun q x1 x2 => zX10_sumOf_6 (zX10_sumOf n) m q x1 x2) q7 lv y) Q := by
      intro q7 r5 y E7 R7 a3
      unfold zX10_sumOf_95
      refine dA_B (e_bnd q7 y lv) (fun r q9 z => ?_)
      obtain ⟨b1, b2, b3, b4, b5⟩ := z
      replace b1 : ∀ j k : Nat, ¬ (j = 0 ∧ k = 24) → q9.1 j k = q7.1 j k := b1
      replace b2 : q9.2 = q7.2 := b2
      replace b3 : lv = 0 → q7.1 0 24 = 0 → q9.1 0 24 = 0 := b3
      replace b4 : ¬ q7.1 0 24 = 0 → ¬ q9.1 0 24 = 0 := b4
      replace b5 : ¬ lv = 0 → q7.1 0 24 = 0 → (jnR (Int64.toInt y) = some (Int64.toInt r) ∧ q9.1 0 24 = 0) ∨ (jnR (Int64.toInt y) = none ∧ ¬ q9.1 0 24 = 0) := b5
      exact hk m q9 r (E7.b b1 b2) (R.bin R7 b3 b4 (fun c d e1 e2 => by rw [a3 e1 e2]; exact b5 c d))
    have h59 : ∀ y0 : Int32, ((y0 = 0 ∧ o = 3) ∨ (¬ y0 = 0 ∧ o = 2)) → dAll (zX10_sumOf_59 (zX10_sumOf n) (fun q x1 x2 => zX10_sumOf_6 (zX10_sumOf n) m q x1 x2) q3 lv v y0) Q := by
      intro y0 hy
      unfold zX10_sumOf_59
      refine dA_L (fun q1 e1 => ?_)
      have k4 := e_go hK q3 hE2 (e_lt hK hE2.2.1 (by omega))
      rw [← e1] at k4
      refine dA_B (e_termx hK h2 hx n q1 lv k4.1) (fun r5 q7 z => ?_)
      obtain ⟨E7, R7⟩ := z
      replace E7 : EG q0 g0 T q7 w := E7
      replace R7 : RV A lv (q1.1 0 24) (q7.1 0 24) g (Int64.toInt r5) := R7
      rw [k4.2] at R7
      refine dA_if (fun c => h95 q7 r5 _ E7 R7 (fun e1 e2 => ?_)) (fun c => h95 q7 r5 _ E7 R7 (fun e1 e2 => ?_))
      · rcases hy with ⟨c1, c2⟩ | ⟨c1, c2⟩
        · have bv := hf _ e1
          have bw := hg _ e2
          rw [c2, jn_3, tl_sub (A := Int64.toInt v) (B := Int64.toInt r5) rfl rfl (by omega) (by omega)]
        · exact absurd c c1
      · rcases hy with ⟨c1, c2⟩ | ⟨c1, c2⟩
        · exact absurd c1 c
        · have bv := hf _ e1
          have bw := hg _ e2
          rw [c2, jn_2, tl_add (A := Int64.toInt v) (B := Int64.toInt r5) rfl rfl (by omega) (by omega)]
    exact dA_eq (fun _ c => h59 1 (Or.inr ⟨by decide, by omega⟩)) (fun _ c => h59 0 (Or.inl ⟨rfl, by omega⟩))
theorem e_cmp (hK : EK oo cs vs A g0 T q0) {t u w : Nat} {o : Int} {f g : VF} (ht : ¬ cs t = 140) (h1 : EP2 A g0 T q0 t u f) (ho : (cs u = 160 ∧ o = 7) ∨ (cs u = 162 ∧ o = 8) ∨ (cs u = 161 ∧ o = 9)) (h2 : EP2 A g0 T q0 (u + 1) w g) (hx : ex2 cs w) : EP3 A g0 T q0 t w (vB o f g) := by
  intro n q lv hE
  have D0 : Int32.toInt 0 = 0 := by decide
  have D1 : Int32.toInt 1 = 1 := by decide
  unfold zX10_positiveOf
  refine dA_V (m_sign 40) (fun r1 e1 => dA_B (e_pass hK q r1 hE (by rw [e1]; decide)) (fun r3 q5 z => ?_))
  have f1 : Int32.toInt r1 = 140 := by rw [e1]; decide
  have z2 : (r3 = 1 ∧ cs t = Int32.toInt r1 ∧ EG q0 g0 T q5 (t + 1) ∧ q5.1 0 24 = q.1 0 24) ∨ (r3 = 0 ∧ ¬ cs t = Int32.toInt r1 ∧ q5 = q) := z
  rcases z2 with z2 | ⟨z1, z2, z3⟩
  · exact absurd (z2.2.1.trans f1) ht
  · subst z3
    refine dA_if (fun _ => ?_) (fun c => absurd z1 c)
    refine dA_B (show dAll (zX10_sumOf 10 q5 lv) _ from e_sumx hK h1 ⟨by omega, by omega⟩ 9 q5 lv hE) (fun r6 q8 y => ?_)
    obtain ⟨E8, R8⟩ := y
    replace E8 : EG q0 g0 T q8 u := E8
    replace R8 : RV A lv (q5.1 0 24) (q8.1 0 24) f (Int64.toInt r6) := R8
    refine dA_B (e_code hK q8 E8 _ rfl) (fun r9 q11 y => dA_L (fun q12 e12 => ?_))
    obtain ⟨y1, y2⟩ := y
    replace y1 : q11 = q8 := y1
    replace y2 : Int32.toInt r9 = cs u := y2
    subst y1
    have k := e_go hK q11 E8 (e_lt hK E8.2.1 (by omega))
    rw [← e12] at k
    refine dA_B (show dAll (zX10_sumOf 10 q12 lv) _ from e_sumx hK h2 hx 9 q12 lv k.1) (fun r13 q15 y => ?_)
    obtain ⟨E15, R15⟩ := y
    replace E15 : EG q0 g0 T q15 w := E15
    replace R15 : RV A lv (q12.1 0 24) (q15.1 0 24) g (Int64.toInt r13) := R15
    rw [k.2] at R15
    -- what is answered
    have hend : ∀ r : Int32, (r = 0 ∨ r = 1) → (¬ lv = 0 → q15.1 0 24 = 0 → jn o (Int64.toInt r6) (Int64.toInt r13) = some (Int32.toInt r)) → dAll (dG (dbl r) (some (r, q15))) (fun zo => EG q0 g0 T zo.2 w ∧ (zo.1 = 0 ∨ zo.1 = 1) ∧ RV A lv (q5.1 0 24) (zo.2.1 0 24) (vB o f g) (Int32.toInt zo.1)) := by
      intro r h01 hr
      exact dA_G (fun _ => dA_some ⟨E15, h01, R8.bin R15 (fun _ d => d) (fun d => d) (fun c d _ _ => Or.inl ⟨hr c d, d⟩)⟩)
    unfold zX10_positiveOf_125 zX10_positiveOf_121 zX10_positiveOf_126
    have lg := lgc r6 r13
    have lm1 : Int32.toInt (-1) = -1 := by decide
    refine dA_if (fun c => hend 0 (Or.inl rfl) (fun d => absurd c d)) (fun c => dA_if (fun c24 => dA_V (m_sign 60) (fun ra ea => ?_)) (fun c24 => hend 0 (Or.inl rfl) (fun _ d => absurd d c24)))
    have fa : Int32.toInt ra = 160 := by rw [ea]; decide
    refine dA_eq (fun _ ca => dA_le (fun cg => hend 0 (Or.inl rfl) (fun _ _ => ?_)) (fun cg => hend 1 (Or.inr rfl) (fun _ _ => ?_))) (fun _ ca => dA_V (m_sign 62) (fun rb eb => ?_))
    · have e : ¬ Int64.toInt r6 < Int64.toInt r13 := by
        rcases lg with ⟨w1, w2⟩ | ⟨w1, w2⟩ | ⟨w1, w2⟩
        · rw [w2] at cg; omega
        · omega
        · omega
      rw [show o = 7 by omega, jn_7, if_neg e, D0]
    · have e : Int64.toInt r6 < Int64.toInt r13 := by
        rcases lg with ⟨w1, w2⟩ | ⟨w1, w2⟩ | ⟨w1, w2⟩
        · exact w1
        · rw [w2] at cg; omega
        · rw [w2] at cg; omega
      rw [show o = 7 by omega, jn_7, if_pos e, D1]
    have fb : Int32.toInt rb = 162 := by rw [eb]; decide
    refine dA_eq (fun _ cb => dA_le (fun cg => hend 0 (Or.inl rfl) (fun _ _ => ?_)) (fun cg => hend 1 (Or.inr rfl) (fun _ _ => ?_))) (fun _ cb => dA_eq (fun cg _ => hend 1 (Or.inr rfl) (fun _ _ => ?_)) (fun cg _ => hend 0 (Or.inl rfl) (fun _ _ => ?_)))
    · have e : ¬ Int64.toInt r13 < Int64.toInt r6 := by
        rcases lg with ⟨w1, w2⟩ | ⟨w1, w2⟩ | ⟨w1, w2⟩
        · omega
        · omega
        · rw [w2] at cg; omega
      rw [show o = 8 by omega, jn_8, if_neg e, D0]
    · have e : Int64.toInt r13 < Int64.toInt r6 := by
        rcases lg with ⟨w1, w2⟩ | ⟨w1, w2⟩ | ⟨w1, w2⟩
        · rw [w2] at cg; omega
        · rw [w2] at cg; omega
        · exact w1
      rw [show o = 8 by omega, jn_8, if_pos e, D1]
    · have e : Int64.toInt r6 = Int64.toInt r13 := by
        rcases lg with ⟨w1, w2⟩ | ⟨w1, w2⟩ | ⟨w1, w2⟩
        · rw [w2] at cg; exact absurd cg (by decide)
        · exact w1
        · rw [w2] at cg; exact absurd cg (by decide)
      rw [show o = 9 by omega, jn_9, if_pos e, D1]
    · have e : ¬ Int64.toInt r6 = Int64.toInt r13 := by
        rcases lg with ⟨w1, w2⟩ | ⟨w1, w2⟩ | ⟨w1, w2⟩
        · omega
        · exact absurd w2 cg
        · omega
      rw [show o = 9 by omega, jn_9, if_neg e, D0]
theorem e_par (hK : EK oo cs vs A g0 T q0) {t u : Nat} {f : VF} (h1 : cs t = 140) (h : EP6 A g0 T q0 (t + 1) u f) (h2 : cs u = 141) : EP3 A g0 T q0 t (u + 1) f := by
  intro n q lv hE
  unfold zX10_positiveOf
  refine dA_V (m_sign 40) (fun r1 e1 => dA_B (e_pass hK q r1 hE (by rw [e1]; decide)) (fun r3 q5 z => ?_))
  have f1 : Int32.toInt r1 = 140 := by rw [e1]; decide
  have z2 : (r3 = 1 ∧ cs t = Int32.toInt r1 ∧ EG q0 g0 T q5 (t + 1) ∧ q5.1 0 24 = q.1 0 24) ∨ (r3 = 0 ∧ ¬ cs t = Int32.toInt r1 ∧ q5 = q) := z
  rcases z2 with ⟨z1, z2, z3, z4⟩ | ⟨z1, z2, z3⟩
  · refine dA_if (fun c => absurd (z1.symm.trans c) (by decide)) (fun _ => ?_)
    cases n with
    | zero => exact dA_B (R := fun _ => False) (fun o e => by cases e) (fun _ _ w => absurd w id)
    | succ n =>
      refine dA_B (show dAll (zX10_testOf (n + 1) q5 lv) _ from e_testx hK h (by unfold ex6; omega) n q5 lv z3) (fun r10 q12 w => dA_L (fun q13 e13 => dA_G (fun _ => dA_some ?_)))
      obtain ⟨w1, w01, w2⟩ := w
      replace w1 : EG q0 g0 T q12 u := w1
      replace w2 : RV A lv (q5.1 0 24) (q12.1 0 24) f (Int32.toInt r10) := w2
      have k := e_go hK q12 w1 (e_lt hK w1.2.1 (by omega))
      rw [← e13] at k
      refine ⟨k.1, w01, ?_⟩
      show RV A lv (q.1 0 24) (q13.1 0 24) f (Int32.toInt r10)
      rw [k.2, ← z4]; exact w2
  · exact absurd (h1.trans f1.symm) z2
theorem vM_2 (d : Nat) (f : VF) : vM (d + 2) f = vM d f := by
  unfold vM
  rw [show (d + 2) % 2 = d % 2 by omega]
theorem RV.neg {lv b b2 : Int32} {f : VF} {r : Int32} {z : Int} (R : RV A lv b b2 f (Int32.toInt r)) (hz : z = 1 - Int32.toInt r) : RV A lv b b2 (vN f) z := by
  refine ⟨R.1, R.2.1, fun c d => ?_⟩
  rcases R.2.2 c d with ⟨e1, e2⟩ | ⟨e1, e2⟩
  · exact Or.inl ⟨by rw [vN_s e1, hz], e2⟩
  · exact Or.inr ⟨vN_n e1, e2⟩
theorem e_not1 (hK : EK oo cs vs A g0 T q0) {s u : Nat} {f : VF} (h : EP3 A g0 T q0 s u f) (hs : ¬ cs s = 7) (n : Nat) (lv : Int32) : ∀ (d m : Nat) (q : dS) (x2 : Int32), d ≤ s → (∀ i : Nat, s - d ≤ i → i < s → cs i = 7) → EG q0 g0 T q (s - d) → (x2 = 0 ∨ x2 = 1) → dAll (zX10_plainOf_2 (zX10_testOf n) m q lv x2) (fun o => EG q0 g0 T o.2 u ∧ (o.1 = 0 ∨ o.1 = 1) ∧ RV A lv (q.1 0 24) (o.2.1 0 24) (vM (if x2 = 0 then d else d + 1) f) (Int32.toInt o.1)) := by
  have D0 : Int32.toInt 0 = 0 := by decide
  have D1 : Int32.toInt 1 = 1 := by decide
  intro d
  induction d with
  | zero =>
    intro m q x2 _ _ hE h01
    cases m with
    | zero => intro o e; cases e
    | succ m =>
      show dAll (zX10_plainOf_2b (zX10_testOf n) (fun q x1 x2 => zX10_plainOf_2 (zX10_testOf n) m q x1 x2) q lv x2) _
      unfold zX10_plainOf_2b
      rw [Nat.sub_zero] at hE
      refine dA_B (e_pass hK q 7 hE (by decide)) (fun r1 q3 z => ?_)
      have z2 : (r1 = 1 ∧ cs s = Int32.toInt 7 ∧ EG q0 g0 T q3 (s + 1) ∧ q3.1 0 24 = q.1 0 24) ∨ (r1 = 0 ∧ ¬ cs s = Int32.toInt 7 ∧ q3 = q) := z
      rw [show Int32.toInt 7 = 7 by decide] at z2
      rcases z2 with z2 | ⟨z1, z2, z3⟩
      · exact absurd z2.2.1 hs
      · subst z3
        refine dA_if (fun _ => dA_B (h n q3 lv hE) (fun r4 q6 y => ?_)) (fun c => absurd z1 c)
        obtain ⟨y1, y2, y3⟩ := y
        replace y1 : EG q0 g0 T q6 u := y1
        replace y2 : r4 = 0 ∨ r4 = 1 := y2
        replace y3 : RV A lv (q3.1 0 24) (q6.1 0 24) f (Int32.toInt r4) := y3
        unfold zX10_plainOf_38
        rcases h01 with h01 | h01
        · subst h01
          rw [if_pos rfl]
          have e : vM 0 f = f := if_pos rfl
          rw [e]
          refine dA_if (fun c => dA_G (fun _ => dA_some ⟨y1, Or.inl rfl, ?_⟩)) (fun c => dA_G (fun _ => dA_some ⟨y1, Or.inr rfl, ?_⟩))
          · subst c; exact y3
          · rcases y2 with y2 | y2
            · exact absurd y2 c
            · subst y2; exact y3
        · subst h01
          rw [if_neg (show ¬ (1 : Int32) = 0 by decide)]
          have e : vM (0 + 1) f = vN f := if_neg (by decide)
          rw [e]
          refine dA_if (fun c => dA_G (fun _ => dA_some ⟨y1, Or.inl rfl, y3.neg ?_⟩)) (fun c => dA_G (fun _ => dA_some ⟨y1, Or.inr rfl, y3.neg ?_⟩))
          · show Int32.toInt 0 = 1 - Int32.toInt r4
            rw [c, D0, D1]; rfl
          · show Int32.toInt 1 = 1 - Int32.toInt r4
            rcases y2 with y2 | y2
            · rw [y2, D0, D1]; rfl
            · exact absurd y2 c
  | succ d ih =>
    intro m q x2 hd hn hE h01
    cases m with
    | zero => intro o e; cases e
    | succ m =>
      show dAll (zX10_plainOf_2b (zX10_testOf n) (fun q x1 x2 => zX10_plainOf_2 (zX10_testOf n) m q x1 x2) q lv x2) _
      unfold zX10_plainOf_2b zX10_plainOf_20
      refine dA_B (e_pass hK q 7 hE (by decide)) (fun r1 q3 z => ?_)
      have z2 : (r1 = 1 ∧ cs (s - (d + 1)) = Int32.toInt 7 ∧ EG q0 g0 T q3 (s - (d + 1) + 1) ∧ q3.1 0 24 = q.1 0 24) ∨ (r1 = 0 ∧ ¬ cs (s - (d + 1)) = Int32.toInt 7 ∧ q3 = q) := z
      rw [show Int32.toInt 7 = 7 by decide] at z2
      rcases z2 with ⟨z1, z2, z3, z4⟩ | z2
      · rw [show s - (d + 1) + 1 = s - d by omega] at z3
        refine dA_if (fun c => absurd (z1.symm.trans c) (by decide)) (fun _ => ?_)
        rcases h01 with h01 | h01
        · subst h01
          refine dA_if (fun _ => ?_) (fun c => absurd rfl c)
          have k := ih m q3 1 (by omega) (fun i i1 i2 => hn i (by omega) i2) z3 (Or.inr rfl)
          rw [if_neg (by decide), z4] at k
          rw [if_pos rfl]
          exact k
        · subst h01
          refine dA_if (fun c => absurd c (by decide)) (fun _ => ?_)
          have k := ih m q3 0 (by omega) (fun i i1 i2 => hn i (by omega) i2) z3 (Or.inl rfl)
          rw [if_pos rfl, z4] at k
          rw [if_neg (by decide), vM_2]
          exact k
      · exact absurd (hn (s - (d + 1)) (Nat.le_refl _) (by omega)) z2.2.1
theorem e_nots (hK : EK oo cs vs A g0 T q0) {t s u : Nat} {f : VF} (h1 : t ≤ s) (h2 : ∀ i : Nat, t ≤ i → i < s → cs i = 7) (hs : ¬ cs s = 7) (h : EP3 A g0 T q0 s u f) : EP4 A g0 T q0 t u (vM (s - t) f) := by
  intro n q lv hE
  have k := e_not1 hK h hs n lv (s - t) dF q 0 (by omega) (fun i i1 i2 => h2 i (by omega) i2) (by rw [show s - (s - t) = t by omega]; exact hE) (Or.inl rfl)
  rw [if_pos rfl] at k
  exact k
theorem e_up4 {t u : Nat} {f : VF} (h : EP4 A g0 T q0 t u f) : EP5 A g0 T q0 t u f := by
  intro n q lv Q hE hk
  unfold zX10_bothOf
  exact dA_B (h n q lv hE) (fun r1 q3 z => hk dF q3 r1 z.1 z.2.1 z.2.2)
theorem e_up5 (hK : EK oo cs vs A g0 T q0) {t u : Nat} {f : VF} (h : EP5 A g0 T q0 t u f) (hx : ex5 cs u) : EP6 A g0 T q0 t u f := by
  intro n q lv Q hE hk
  unfold zX10_testOf_o
  exact dA_B (e_bothx hK h hx n q lv hE) (fun r1 q3 z => hk dF q3 r1 z.1 z.2.1 z.2.2)
/-- the other side counts only where the first has not decided -/
theorem RV.lp {lv b0 b1 b2 y0 v w z : Int32} {k : Int} {f g : VF} (R1 : RV A lv b0 b1 f (Int32.toInt v)) (R2 : RV A y0 b1 b2 g (Int32.toInt w)) (h0 : lv = 0 → y0 = 0) (h1 : ¬ lv = 0 → (Int32.toInt v = k → y0 = 0 ∧ Int32.toInt z = k) ∧ (¬ Int32.toInt v = k → ¬ y0 = 0 ∧ Int32.toInt z = Int32.toInt w)) : RV A lv b0 b2 (vL k f g) (Int32.toInt z) := by
  refine ⟨fun c d => R2.1 (h0 c) (R1.1 c d), fun c => R2.2.1 (R1.2.1 c), fun c d => ?_⟩
  rcases R1.2.2 c d with ⟨e1, e2⟩ | ⟨e1, e2⟩
  · by_cases cv : Int32.toInt v = k
    · have x := (h1 c).1 cv
      exact Or.inl ⟨by rw [vL_y e1 cv, cv, x.2], R2.1 x.1 e2⟩
    · have x := (h1 c).2 cv
      rw [vL_o e1 cv, x.2]
      exact R2.2.2 x.1 e2
  · exact Or.inr ⟨vL_n e1, R2.2.1 e2⟩
theorem e_an (hK : EK oo cs vs A g0 T q0) {t u w : Nat} {f g : VF} (h1 : EP5 A g0 T q0 t u f) (ho : cs u = 6) (h2 : EP4 A g0 T q0 (u + 1) w g) : EP5 A g0 T q0 t w (vL 0 f g) := by
  intro n q lv Q hE hk
  have D0 : Int32.toInt 0 = 0 := by decide
  have D1 : Int32.toInt 1 = 1 := by decide
  refine h1 n q lv Q hE (fun m q2 v hE2 h01 R => ?_)
  cases m with
  | zero => intro o2 e; cases e
  | succ m =>
    show dAll (zX10_bothOf_6b (zX10_testOf n) (fun q x1 x2 => zX10_bothOf_6 (zX10_testOf n) m q x1 x2) q2 lv v) Q
    unfold zX10_bothOf_6b
    refine dA_B (e_pass hK q2 6 hE2 (by decide)) (fun r1 q3 z => ?_)
    have z2 : (r1 = 1 ∧ cs u = Int32.toInt 6 ∧ EG q0 g0 T q3 (u + 1) ∧ q3.1 0 24 = q2.1 0 24) ∨ (r1 = 0 ∧ ¬ cs u = Int32.toInt 6 ∧ q3 = q2) := z
    rw [show Int32.toInt 6 = 6 by decide] at z2
    rcases z2 with ⟨z1, z2, z3, z4⟩ | z2
    · refine dA_if (fun c => absurd (z1.symm.trans c) (by decide)) (fun _ => ?_)
      have h29 : ∀ y0 : Int32, (lv = 0 → y0 = 0) → (¬ lv = 0 → (v = 0 → y0 = 0) ∧ (¬ v = 0 → ¬ y0 = 0)) → dAll (zX10_bothOf_29 (zX10_testOf n) (fun q x1 x2 => zX10_bothOf_6 (zX10_testOf n) m q x1 x2) q3 lv v y0) Q := by
        intro y0 a1 a2
        unfold zX10_bothOf_29 zX10_bothOf_45 zX10_bothOf_46
        refine dA_B (h2 n q3 y0 z3) (fun r4 q6 y => ?_)
        obtain ⟨y1, y2, y3⟩ := y
        replace y1 : EG q0 g0 T q6 w := y1
        replace y2 : r4 = 0 ∨ r4 = 1 := y2
        replace y3 : RV A y0 (q3.1 0 24) (q6.1 0 24) g (Int32.toInt r4) := y3
        rw [z4] at y3
        have fin : ∀ z : Int32, (z = 0 ∨ z = 1) → (¬ lv = 0 → (v = 0 → z = 0) ∧ (¬ v = 0 → z = r4)) → dAll (zX10_bothOf_6 (zX10_testOf n) m q6 lv z) Q := by
          intro z hz hv
          refine hk m q6 z y1 hz (R.lp y3 a1 (fun c => ⟨fun cv => ?_, fun cv => ?_⟩))
          · have ev : v = 0 := Int32.toInt_inj.mp (cv.trans D0.symm)
            exact ⟨(a2 c).1 ev, by rw [(hv c).1 ev, D0]⟩
          · have ev : ¬ v = 0 := fun e => cv (by rw [e, D0])
            exact ⟨(a2 c).2 ev, by rw [(hv c).2 ev]⟩
        refine dA_if (fun c => fin 0 (Or.inl rfl) (fun _ => ⟨fun _ => rfl, fun d => absurd c d⟩)) (fun c => dA_if (fun c4 => fin 0 (Or.inl rfl) (fun _ => ⟨fun _ => rfl, fun _ => c4.symm⟩)) (fun c4 => fin 1 (Or.inr rfl) (fun _ => ⟨fun d => absurd d c, fun _ => ?_⟩)))
        rcases y2 with y2 | y2
        · exact absurd y2 c4
        · exact y2.symm
      unfold zX10_bothOf_28
      exact dA_if (fun c => h29 0 (fun _ => rfl) (fun d => absurd c d)) (fun c => dA_if (fun c2 => h29 0 (fun _ => rfl) (fun _ => ⟨fun _ => rfl, fun d => absurd c2 d⟩)) (fun c2 => h29 1 (fun d => absurd d c) (fun _ => ⟨fun d => absurd d c2, fun _ => by decide⟩)))
    · exact absurd ho z2.2.1
theorem e_orr (hK : EK oo cs vs A g0 T q0) {t u w : Nat} {f g : VF} (h1 : EP6 A g0 T q0 t u f) (ho : cs u = 5) (h2 : EP5 A g0 T q0 (u + 1) w g) (hx : ex5 cs w) : EP6 A g0 T q0 t w (vL 1 f g) := by
  intro n q lv Q hE hk
  have D0 : Int32.toInt 0 = 0 := by decide
  have D1 : Int32.toInt 1 = 1 := by decide
  refine h1 n q lv Q hE (fun m q2 v hE2 h01 R => ?_)
  cases m with
  | zero => intro o2 e; cases e
  | succ m =>
    show dAll (zX10_testOf_6b (zX10_testOf n) (fun q x1 x2 => zX10_testOf_6 (zX10_testOf n) m q x1 x2) q2 lv v) Q
    unfold zX10_testOf_6b
    refine dA_B (e_pass hK q2 5 hE2 (by decide)) (fun r1 q3 z => ?_)
    have z2 : (r1 = 1 ∧ cs u = Int32.toInt 5 ∧ EG q0 g0 T q3 (u + 1) ∧ q3.1 0 24 = q2.1 0 24) ∨ (r1 = 0 ∧ ¬ cs u = Int32.toInt 5 ∧ q3 = q2) := z
    rw [show Int32.toInt 5 = 5 by decide] at z2
    rcases z2 with ⟨z1, z2, z3, z4⟩ | z2
    · refine dA_if (fun c => absurd (z1.symm.trans c) (by decide)) (fun _ => ?_)
      have h28 : ∀ y0 : Int32, (lv = 0 → y0 = 0) → (¬ lv = 0 → (v = 1 → y0 = 0) ∧ (¬ v = 1 → ¬ y0 = 0)) → dAll (zX10_testOf_28 (zX10_testOf n) (fun q x1 x2 => zX10_testOf_6 (zX10_testOf n) m q x1 x2) q3 lv v y0) Q := by
        intro y0 a1 a2
        unfold zX10_testOf_28 zX10_testOf_40 zX10_testOf_45
        refine dA_B (e_bothx hK h2 hx n q3 y0 z3) (fun r4 q6 y => ?_)
        obtain ⟨y1, y2, y3⟩ := y
        replace y1 : EG q0 g0 T q6 w := y1
        replace y2 : r4 = 0 ∨ r4 = 1 := y2
        replace y3 : RV A y0 (q3.1 0 24) (q6.1 0 24) g (Int32.toInt r4) := y3
        rw [z4] at y3
        have fin : ∀ z : Int32, (z = 0 ∨ z = 1) → (¬ lv = 0 → (v = 1 → z = 1) ∧ (¬ v = 1 → z = r4)) → dAll (zX10_testOf_6 (zX10_testOf n) m q6 lv z) Q := by
          intro z hz hv
          refine hk m q6 z y1 hz (R.lp y3 a1 (fun c => ⟨fun cv => ?_, fun cv => ?_⟩))
          · have ev : v = 1 := Int32.toInt_inj.mp (cv.trans D1.symm)
            exact ⟨(a2 c).1 ev, by rw [(hv c).1 ev, D1]⟩
          · have ev : ¬ v = 1 := fun e => cv (by rw [e, D1])
            exact ⟨(a2 c).2 ev, by rw [(hv c).2 ev]⟩
        refine dA_if (fun c => dA_if (fun c4 => fin 0 (Or.inl rfl) (fun _ => ⟨fun d => absurd (c.symm.trans d) (by decide), fun _ => c4.symm⟩)) (fun c4 => fin 1 (Or.inr rfl) (fun _ => ⟨fun _ => rfl, fun _ => ?_⟩))) (fun c => fin 1 (Or.inr rfl) (fun _ => ⟨fun _ => rfl, fun d => ?_⟩))
        · rcases y2 with y2 | y2
          · exact absurd y2 c4
          · exact y2.symm
        · rcases h01 with e | e
          · exact absurd e c
          · exact absurd e d
      unfold zX10_testOf_27
      refine dA_if (fun c => h28 0 (fun _ => rfl) (fun d => absurd c d)) (fun c => dA_if (fun c2 => h28 1 (fun d => absurd d c) (fun _ => ⟨fun d => absurd (c2.symm.trans d) (by decide), fun _ => by decide⟩)) (fun c2 => h28 0 (fun _ => rfl) (fun _ => ⟨fun _ => rfl, fun d => ?_⟩)))
      rcases h01 with e | e
      · exact absurd e c2
      · exact absurd e d
    · exact absurd ho z2.2.1
/-- by rules: level by level -/
def EPA (cs A : Nat → Int) (g0 T : Nat) (q0 : dS) (k t u : Nat) (f : VF) : Prop := (k ≤ 2 → VBd A f) ∧ (k ≤ 2 → ¬ cs t = 140) ∧ (k ≤ 3 → ¬ cs t = 7) ∧ (k = 0 → EP0 A g0 T q0 t u f) ∧ (k = 1 → EP1 A g0 T q0 t u f) ∧ (k = 2 → EP2 A g0 T q0 t u f) ∧ (k = 3 → EP3 A g0 T q0 t u f) ∧ (k = 4 → EP4 A g0 T q0 t u f) ∧ (k = 5 → EP5 A g0 T q0 t u f) ∧ (k = 6 → EP6 A g0 T q0 t u f)
theorem e_all (hK : EK oo cs vs A g0 T q0) {k t u : Nat} {f : VF} (h : Sp oo cs vs k t u f) : EPA cs A g0 T q0 k t u f := by
  have hA := hK.2.2.2.2.2.1
  have w3 : ∀ j : Nat, j < 9 → 8 ≤ wcd_3 j ∧ wcd_3 j ≤ 16 := by decide
  have w2 : ∀ j : Nat, j < 5 → 16 ≤ wcd_2 j ∧ wcd_2 j ≤ 20 := by decide
  refine h (EPA cs A g0 T q0) ⟨?_, ?_, ?_, ?_, ?_, ?_, ?_, ?_, ?_, ?_, ?_, ?_, ?_, ?_, ?_, ?_⟩
  · exact fun t h1 h2 h3 => ⟨(fun _ => (fun v hv => by have e : vs t = v := Option.some.inj hv; omega)), (fun _ => by omega), (fun _ => by omega), (fun _ => e_num hK h1), (fun z => absurd z (by decide)), (fun z => absurd z (by decide)), (fun z => absurd z (by decide)), (fun z => absurd z (by decide)), (fun z => absurd z (by decide)), (fun z => absurd z (by decide))⟩
  · exact fun t j h1 h2 h3 => ⟨(fun _ => (fun v hv => by have e : A j = v := Option.some.inj hv; have := hA j; omega)), (fun _ => by have := w3 j h2; omega), (fun _ => by have := w3 j h2; omega), (fun _ => e_wl hK h1 h2 h3), (fun z => absurd z (by decide)), (fun z => absurd z (by decide)), (fun z => absurd z (by decide)), (fun z => absurd z (by decide)), (fun z => absurd z (by decide)), (fun z => absurd z (by decide))⟩
  · exact fun t j h1 h2 h3 => ⟨(fun _ => (fun v hv => by have e : A j = v := Option.some.inj hv; have := hA j; omega)), (fun _ => by have := w2 j h2; omega), (fun _ => by have := w2 j h2; omega), (fun _ => e_wo hK h1 h2 h3), (fun z => absurd z (by decide)), (fun z => absurd z (by decide)), (fun z => absurd z (by decide)), (fun z => absurd z (by decide)), (fun z => absurd z (by decide)), (fun z => absurd z (by decide))⟩
  · exact fun t x j h1 h2 h3 h4 h5 => ⟨(fun _ => (fun v hv => by have e : A (x + j) = v := Option.some.inj hv; have := hA (x + j); omega)), (fun _ => by omega), (fun _ => by omega), (fun _ => e_wp hK h1 h2 h3 h4 h5), (fun z => absurd z (by decide)), (fun z => absurd z (by decide)), (fun z => absurd z (by decide)), (fun z => absurd z (by decide)), (fun z => absurd z (by decide)), (fun z => absurd z (by decide))⟩
  · exact fun t u f h1 h2 h3 => ⟨(fun _ => h2.1 (by decide)), (fun _ => by omega), (fun _ => by omega), (fun _ => e_brk hK h1 (h2.2.2.2.2.2.1 rfl) h3), (fun z => absurd z (by decide)), (fun z => absurd z (by decide)), (fun z => absurd z (by decide)), (fun z => absurd z (by decide)), (fun z => absurd z (by decide)), (fun z => absurd z (by decide))⟩
  · exact fun t u f h1 => ⟨(fun _ => h1.1 (by decide)), (fun _ => h1.2.1 (by decide)), (fun _ => h1.2.2.1 (by decide)), (fun z => absurd z (by decide)), (fun _ => e_up0 (h1.2.2.2.1 rfl)), (fun z => absurd z (by decide)), (fun z => absurd z (by decide)), (fun z => absurd z (by decide)), (fun z => absurd z (by decide)), (fun z => absurd z (by decide))⟩
  · exact fun t u f h1 h2 => ⟨(fun _ => h1.1 (by decide)), (fun _ => h1.2.1 (by decide)), (fun _ => h1.2.2.1 (by decide)), (fun z => absurd z (by decide)), (fun z => absurd z (by decide)), (fun _ => e_up1 hK (h1.2.2.2.2.1 rfl) h2), (fun z => absurd z (by decide)), (fun z => absurd z (by decide)), (fun z => absurd z (by decide)), (fun z => absurd z (by decide))⟩
  · exact fun t u w o f g h1 h2 h3 => ⟨(fun _ => vB_bd), (fun _ => h1.2.1 (by decide)), (fun _ => h1.2.2.1 (by decide)), (fun z => absurd z (by decide)), (fun _ => e_mul hK (h1.1 (by decide)) (h3.1 (by decide)) (h1.2.2.2.2.1 rfl) h2 (h3.2.2.2.1 rfl)), (fun z => absurd z (by decide)), (fun z => absurd z (by decide)), (fun z => absurd z (by decide)), (fun z => absurd z (by decide)), (fun z => absurd z (by decide))⟩
  · exact fun t u w o f g h1 h2 h3 h4 => ⟨(fun _ => vB_bd), (fun _ => h1.2.1 (by decide)), (fun _ => h1.2.2.1 (by decide)), (fun z => absurd z (by decide)), (fun z => absurd z (by decide)), (fun _ => e_add hK (h1.1 (by decide)) (h3.1 (by decide)) (h1.2.2.2.2.2.1 rfl) h2 (h3.2.2.2.2.1 rfl) h4), (fun z => absurd z (by decide)), (fun z => absurd z (by decide)), (fun z => absurd z (by decide)), (fun z => absurd z (by decide))⟩
  · exact fun t u w o f g h1 h2 h3 h4 => ⟨(fun z => absurd z (by decide)), (fun z => absurd z (by decide)), (fun _ => h1.2.2.1 (by decide)), (fun z => absurd z (by decide)), (fun z => absurd z (by decide)), (fun z => absurd z (by decide)), (fun _ => e_cmp hK (h1.2.1 (by decide)) (h1.2.2.2.2.2.1 rfl) h2 (h3.2.2.2.2.2.1 rfl) h4), (fun z => absurd z (by decide)), (fun z => absurd z (by decide)), (fun z => absurd z (by decide))⟩
  · exact fun t u f h1 h2 h3 => ⟨(fun z => absurd z (by decide)), (fun z => absurd z (by decide)), (fun _ => by omega), (fun z => absurd z (by decide)), (fun z => absurd z (by decide)), (fun z => absurd z (by decide)), (fun _ => e_par hK h1 (h2.2.2.2.2.2.2.2.2.2 rfl) h3), (fun z => absurd z (by decide)), (fun z => absurd z (by decide)), (fun z => absurd z (by decide))⟩
  · exact fun t s u f h1 h2 h3 => ⟨(fun z => absurd z (by decide)), (fun z => absurd z (by decide)), (fun z => absurd z (by decide)), (fun z => absurd z (by decide)), (fun z => absurd z (by decide)), (fun z => absurd z (by decide)), (fun z => absurd z (by decide)), (fun _ => e_nots hK h1 h2 (h3.2.2.1 (by decide)) (h3.2.2.2.2.2.2.1 rfl)), (fun z => absurd z (by decide)), (fun z => absurd z (by decide))⟩
  · exact fun t u f h1 => ⟨(fun z => absurd z (by decide)), (fun z => absurd z (by decide)), (fun z => absurd z (by decide)), (fun z => absurd z (by decide)), (fun z => absurd z (by decide)), (fun z => absurd z (by decide)), (fun z => absurd z (by decide)), (fun z => absurd z (by decide)), (fun _ => e_up4 (h1.2.2.2.2.2.2.2.1 rfl)), (fun z => absurd z (by decide))⟩
  · exact fun t u f h1 h2 => ⟨(fun z => absurd z (by decide)), (fun z => absurd z (by decide)), (fun z => absurd z (by decide)), (fun z => absurd z (by decide)), (fun z => absurd z (by decide)), (fun z => absurd z (by decide)), (fun z => absurd z (by decide)), (fun z => absurd z (by decide)), (fun z => absurd z (by decide)), (fun _ => e_up5 hK (h1.2.2.2.2.2.2.2.2.1 rfl) h2)⟩
  · exact fun t u w f g h1 h2 h3 => ⟨(fun z => absurd z (by decide)), (fun z => absurd z (by decide)), (fun z => absurd z (by decide)), (fun z => absurd z (by decide)), (fun z => absurd z (by decide)), (fun z => absurd z (by decide)), (fun z => absurd z (by decide)), (fun z => absurd z (by decide)), (fun _ => e_an hK (h1.2.2.2.2.2.2.2.2.1 rfl) h2 (h3.2.2.2.2.2.2.2.1 rfl)), (fun z => absurd z (by decide))⟩
  · exact fun t u w f g h1 h2 h3 h4 => ⟨(fun z => absurd z (by decide)), (fun z => absurd z (by decide)), (fun z => absurd z (by decide)), (fun z => absurd z (by decide)), (fun z => absurd z (by decide)), (fun z => absurd z (by decide)), (fun z => absurd z (by decide)), (fun z => absurd z (by decide)), (fun z => absurd z (by decide)), (fun _ => e_orr hK (h1.2.2.2.2.2.2.2.2.2 rfl) h2 (h3.2.2.2.2.2.2.2.2.1 rfl) h4)⟩
/-- the reference's value of a sum, of a test -/
theorem e_sum (hK : EK oo cs vs A g0 T q0) {t u : Nat} {f : VF} (h : Sp oo cs vs 2 t u f) (hx : ex2 cs u) (q : dS) (lv : Int32) (hE : EG q0 g0 T q t) : dAll (zX10_sumOf 10 q lv) (fun zo => EG q0 g0 T zo.2 u ∧ RV A lv (q.1 0 24) (zo.2.1 0 24) f (Int64.toInt zo.1)) := e_sumx hK ((e_all hK h).2.2.2.2.2.1 rfl) hx 9 q lv hE
theorem e_test (hK : EK oo cs vs A g0 T q0) {t u : Nat} {f : VF} (h : Sp oo cs vs 6 t u f) (hx : ex6 cs u) (q : dS) (lv : Int32) (hE : EG q0 g0 T q t) : dAll (zX10_testOf 10 q lv) (fun zo => EG q0 g0 T zo.2 u ∧ (zo.1 = 0 ∨ zo.1 = 1) ∧ RV A lv (q.1 0 24) (zo.2.1 0 24) f (Int32.toInt zo.1)) := e_testx hK ((e_all hK h).2.2.2.2.2.2.2.2.2 rfl) hx 9 q lv hE
end X6

