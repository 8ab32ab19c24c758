/-! a law asked: its clauses' meaning, once for both sides -/
/-- what stays where a value was worked out -/
def vfr (q o : dK) : Prop := (∀ j k : Nat, ¬ j = 19 → ¬ (j = 18 ∧ k = 1) → o.1 j k = q.1 j k) ∧ o.2 = q.2
theorem vfr.rf {q : dK} : vfr q q := ⟨fun _ _ _ _ => rfl, rfl⟩
theorem vfr.t {q o u : dK} (h : vfr q o) (k : vfr o u) : vfr q u := ⟨fun j i h1 h2 => (k.1 j i h1 h2).trans (h.1 j i h1 h2), k.2.trans h.2⟩
/-- the class's side of a clause: its test, its sum -/
def CSd (A : Nat → Int) (C : Nat → Int32) (kd : Int) (a b c : Nat) (H : Bool) (S : Option Int) : Prop := (¬ kd = 0 → S = some 1) ∧ ∀ (q : dK) (x1 p2 p3 p4 : Int32), (dTx q x1).2.2.2.2 5 = C → (∀ k : Nat, k < 9 → Int32.toInt (q.1 21 k) = A k) → Int32.toInt p2 = (a : Int) → Int32.toInt p3 = (b : Int) → Int32.toInt p4 = (c : Int) → c ≤ Int32.toNatClampNeg (dTx q x1).2.2.2.1 → Int32.toNatClampNeg (dTx q x1).2.2.2.1 ≤ 400 → dAll (zX2_valueOf_s18_l_s21 q x1 p3 p4) (fun o => vfr q o.2 ∧ (o.1 = 1 ↔ H = true)) ∧ (kd = 0 → dAll (zX2_valueOf_s18_l_s21 q x1 p2 p3) (fun o => vfr q o.2 ∧ ((S = some (Int32.toInt o.1) ∧ o.2.1 18 1 = 0) ∨ (S = none ∧ ¬ o.2.1 18 1 = 0))))
/-- the reference's side -/
def RSd (cs vs A : Nat → Int) (T : Nat) (kd : Int) (t w : Nat) (H : Bool) (S : Option Int) : Prop := ∀ (g0 : Nat) (q0 : dS), EK 0 cs vs A g0 T q0 → ∀ (k60 : dS → Int32 → Int64 → Option (Int32 × dS)) (Q : Int32 × dS → Prop) (q : dS) (hd : Int32) (x3 : Int64), EG q0 g0 T q t → (∀ (q2 : dS) (x : Int64), ER q0 q2 → Int32.toInt (q2.1 0 22) = ((g0 + (w + 1) : Nat) : Int) → Int64.toInt x = (if kd + 1 = Int32.toInt hd ∧ H = true then (S.map clI).getD (Int64.toInt x3) else Int64.toInt x3) → dAll (k60 q2 hd x) Q) → dAll (zX10_tells_60b k60 q hd x3) Q
theorem cl_sem {cs vs A : Nat → Int} {C : Nat → Int32} {kd tm : Int} {a b c t w T : Nat} (h : CLR 0 9 cs vs C kd tm a b c t w) (hab : a ≤ b) (hbc : b ≤ c) : ∃ (H : Bool) (S : Option Int), CSd A C kd a b c H S ∧ RSd cs vs A T kd t w H S := by
  obtain ⟨u, v, f, g, h1, h2, h3, h4⟩ := h
  have hk : 0 ≤ kd ∧ kd < 3 ∧ cs t = kd + 1 := by
    rcases h1 with z | z
    · exact z.2
    · exact absurd z.1 (by decide)
  have hv : v = u := by
    rcases h3 with z | z
    · exact absurd z.1 (by decide)
    · exact z.2.2
  subst hv
  have hs : (kd = 0 ∧ Sp 0 cs vs 2 (t + 1) v f ∧ ex2 cs v ∧ Cd C 9 a b 19 0 f) ∨ (¬ kd = 0 ∧ v = t + 1 ∧ a = b) := by
    rcases h2 with ⟨z1, z2⟩ | ⟨z1, z2⟩
    · rcases z1 with z1 | z1
      · exact Or.inl ⟨z1.2, z2⟩
      · exact absurd z1.1 (by decide)
    · rcases z1 with z1 | z1
      · exact Or.inr ⟨z1.2, z2⟩
      · exact absurd z1.1 (by decide)
  have h10 : ∀ (r : Int32), (r = 1 ↔ Int32.toInt r = 1) := fun r => ⟨fun z => by rw [z]; decide, fun z => Int32.toInt_inj.mp (z.trans (by decide))⟩
  by_cases hh : ¬ cs v = 4 ∨ g A = some 1
  · refine ⟨true, if kd = 0 then f A else some 1, ⟨fun z => if_neg z, fun q x1 p2 p3 p4 eC eA e2 e3 e4 e5 e6 => ⟨?_, fun z => ?_⟩⟩, ?_⟩
    · rcases h4 with ⟨k1, k2, k3, k4⟩ | ⟨k1, k2, k3⟩
      · refine dA_mono (vTop A x1 p3 p4 C k4 (by decide) q eC e3 e4 e5 e6 eA) (fun o z => ⟨⟨z.1, z.2.1⟩, fun _ => rfl, fun _ => (h10 _).mpr ?_⟩)
        rcases hh with y | y
        · exact absurd k1 y
        · rcases z.2.2 with ⟨x, x1, x2, -⟩ | ⟨x1, -⟩
          · rw [x1] at y
            rw [x2]; exact Option.some.inj y
          · rw [x1] at y; cases y
      · exact dA_mono (vEmp x1 p3 p4 q (by omega)) (fun o z => ⟨⟨z.1, z.2.1⟩, fun _ => rfl, fun _ => z.2.2.1⟩)
    · rcases hs with ⟨s1, s2, s3, s4⟩ | ⟨s1, -⟩
      · rw [if_pos z]
        refine dA_mono (vTop A x1 p2 p3 C s4 (by decide) q eC e2 e3 (by omega) e6 eA) (fun o y => ⟨⟨y.1, y.2.1⟩, ?_⟩)
        rcases y.2.2 with ⟨x, x1, x2, x3⟩ | ⟨x1, -, x3⟩
        · exact Or.inl ⟨by rw [x2]; exact x1, x3⟩
        · exact Or.inr ⟨x1, x3⟩
      · exact absurd z s1
    · intro g0 q0 hK k60 Q q hd x3 hE hk2
      refine t_one hK q hd x3 (f := f) (g := g) hE hk ?_ ?_ ⟨fun _ => hh, fun _ => rfl⟩ hk2
      · rcases hs with ⟨s1, s2, s3, -⟩ | ⟨s1, s2, -⟩
        · exact Or.inl ⟨s1, s2, s3, if_pos s1⟩
        · exact Or.inr ⟨s1, s2, if_neg s1⟩
      · rcases h4 with ⟨k1, k2, k3, -⟩ | ⟨k1, k2, -⟩
        · exact Or.inl ⟨k1, k2, k3⟩
        · exact Or.inr ⟨k1, k2⟩
  · refine ⟨false, if kd = 0 then f A else some 1, ⟨fun z => if_neg z, fun q x1 p2 p3 p4 eC eA e2 e3 e4 e5 e6 => ⟨?_, fun z => ?_⟩⟩, ?_⟩
    · rcases h4 with ⟨k1, k2, k3, k4⟩ | ⟨k1, k2, k3⟩
      · refine dA_mono (vTop A x1 p3 p4 C k4 (by decide) q eC e3 e4 e5 e6 eA) (fun o z => ⟨⟨z.1, z.2.1⟩, fun y => ?_, fun y => absurd y (by decide)⟩)
        exfalso
        have y1 := (h10 _).mp y
        rcases z.2.2 with ⟨x, x1, x2, -⟩ | ⟨-, x2, -⟩
        · exact hh (Or.inr (by rw [x1, ← x2, y1]))
        · rw [x2] at y; exact absurd y (by decide)
      · exact absurd (Or.inl k1) hh
    · rcases hs with ⟨s1, s2, s3, s4⟩ | ⟨s1, -⟩
      · rw [if_pos z]
        refine dA_mono (vTop A x1 p2 p3 C s4 (by decide) q eC e2 e3 (by omega) e6 eA) (fun o y => ⟨⟨y.1, y.2.1⟩, ?_⟩)
        rcases y.2.2 with ⟨x, x1, x2, x3⟩ | ⟨x1, -, x3⟩
        · exact Or.inl ⟨by rw [x2]; exact x1, x3⟩
        · exact Or.inr ⟨x1, x3⟩
      · exact absurd z s1
    · intro g0 q0 hK k60 Q q hd x3 hE hk2
      refine t_one hK q hd x3 (f := f) (g := g) hE hk ?_ ?_ ⟨fun z => absurd z (by decide), fun z => absurd z hh⟩ hk2
      · rcases hs with ⟨s1, s2, s3, -⟩ | ⟨s1, s2, -⟩
        · exact Or.inl ⟨s1, s2, s3, if_pos s1⟩
        · exact Or.inr ⟨s1, s2, if_neg s1⟩
      · rcases h4 with ⟨k1, k2, k3, -⟩ | ⟨k1, k2, -⟩
        · exact Or.inl ⟨k1, k2, k3⟩
        · exact Or.inr ⟨k1, k2⟩
/-- a law's meaning: which clauses hold, their sums -/
def LSem (cs vs A : Nat → Int) (T m L : Nat) (K S1 S2 S3 C : Nat → Int32) (H : Nat → Bool) (S : Nat → Option Int) : Prop := 1 ≤ m ∧ m ≤ 12 ∧ (∃ ts ws fa fb fc : Nat → Nat, ts 0 = 0 ∧ ∀ i : Nat, i < m → Int32.toInt (S1 i) = ((fa i : Nat) : Int) ∧ Int32.toInt (S2 i) = ((fb i : Nat) : Int) ∧ Int32.toInt (S3 i) = ((fc i : Nat) : Int) ∧ fc i ≤ L ∧ CSd A C (Int32.toInt (K i)) (fa i) (fb i) (fc i) (H i) (S i) ∧ RSd cs vs A T (Int32.toInt (K i)) (ts i) (ws i) (H i) (S i) ∧ ws i ≤ T ∧ ((i + 1 < m ∧ cs (ws i) = 159 ∧ ts (i + 1) = ws i + 1) ∨ (i + 1 = m ∧ ws i = T)) ∧ 0 ≤ Int32.toInt (K i) ∧ ¬ cs (ts i) = 0)
theorem l_sem {cs vs : Nat → Int} (A : Nat → Int) {T m L : Nat} {K Tm S1 S2 S3 C : Nat → Int32} (h : CLS 0 9 cs vs K Tm S1 S2 S3 C m T L) : ∃ (H : Nat → Bool) (S : Nat → Option Int), LSem cs vs A T m L K S1 S2 S3 C H S := by
  obtain ⟨ts, ws, fa, fb, fc, h0, h1, h2, h3⟩ := h
  have hp : ∀ i : Nat, ∃ p : Bool × Option Int, i < m → CSd A C (Int32.toInt (K i)) (fa i) (fb i) (fc i) p.1 p.2 ∧ RSd cs vs A T (Int32.toInt (K i)) (ts i) (ws i) p.1 p.2 := by
    intro i
    by_cases hi : i < m
    · obtain ⟨k1, k2, k3, k4, k5, k6, k7, -⟩ := h3 i hi
      obtain ⟨H, S, z⟩ := cl_sem (A := A) (T := T) k7 k4 k5
      exact ⟨(H, S), fun _ => z⟩
    · exact ⟨(true, none), fun z => absurd z hi⟩
  obtain ⟨P, hP⟩ := Classical.skolem.mp hp
  refine ⟨fun i => (P i).1, fun i => (P i).2, h1, h2, ts, ws, fa, fb, fc, h0, fun i hi => ?_⟩
  obtain ⟨k1, k2, k3, k4, k5, k6, k7, k8, k9⟩ := h3 i hi
  obtain ⟨z1, z2⟩ := hP i hi
  have hk : 0 ≤ Int32.toInt (K i) ∧ ¬ cs (ts i) = 0 := by
    obtain ⟨u, v, f, g, y1, -⟩ := k7
    rcases y1 with y | y
    · omega
    · exact absurd y.1 (by decide)
  exact ⟨k1, k2, k3, k6, z1, z2, k8, k9, hk.1, hk.2⟩
/-! the reference asks: all clauses, one behind another -/
theorem t_loop {cs vs A : Nat → Int} {T m L g0 : Nat} {K S1 S2 S3 C : Nat → Int32} {H : Nat → Bool} {S : Nat → Option Int} {q0 : dS} (hK : EK 0 cs vs A g0 T q0) (hL : LSem cs vs A T m L K S1 S2 S3 C H S) (hd : Int32) (x0 : Int) (hx0 : -2147483648 ≤ x0 ∧ x0 ≤ 2147483647) (q : dS) (x3 : Int64) (hE : EG q0 g0 T q 0) (h3 : Int64.toInt x3 = x0) : dAll (zX10_tells_60 dF q hd x3) (fun o => Int32.toInt o.1 = TL (Int32.toInt hd) (fun i => Int32.toInt (K i)) H S x0 m ∧ ER q0 o.2) := by
  obtain ⟨m1, m2, ts, ws, fa, fb, fc, h0, hc⟩ := hL
  have key : ∀ (n i : Nat) (q : dS) (x3 : Int64), i ≤ m → ER q0 q → ((i < m ∧ EG q0 g0 T q (ts i)) ∨ (i = m ∧ Int32.toInt (q.1 0 22) = ((g0 + (T + 1) : Nat) : Int))) → Int64.toInt x3 = TL (Int32.toInt hd) (fun i => Int32.toInt (K i)) H S x0 i → dAll (zX10_tells_60 n q hd x3) (fun o => Int32.toInt o.1 = TL (Int32.toInt hd) (fun i => Int32.toInt (K i)) H S x0 m ∧ ER q0 o.2) := by
    intro n
    induction n with
    | zero => intro i q x3 _ _ _ _ o e; cases e
    | succ n ih =>
      intro i q x3 hi hR hs hx
      show dAll (zX10_tells_60b (fun q x1 x3 => zX10_tells_60 n q x1 x3) q hd x3) _
      rcases hs with ⟨s1, s2⟩ | ⟨s1, s2⟩
      · obtain ⟨k1, k2, k3, k4, k5, k6, k7w, k7, k8, k9⟩ := hc i s1
        refine k6 g0 q0 hK _ _ q hd x3 s2 (fun q2 x r1 r2 r3 => ?_)
        have hx2 : Int64.toInt x = TL (Int32.toInt hd) (fun i => Int32.toInt (K i)) H S x0 (i + 1) := by
          rw [r3, hx]; rfl
        rcases k7 with ⟨w1, w2, w3⟩ | ⟨w1, w2⟩
        · refine ih (i + 1) q2 x (by omega) r1 (Or.inl ⟨w1, r1, ?_, by rw [w3]; exact r2⟩) hx2
          have hw : ¬ ws i = T := fun e => by rw [e, hK.2.2.1] at w2; omega
          rw [w3]; omega
        · exact ih (i + 1) q2 x (by omega) r1 (Or.inr ⟨w1, by rw [r2, w2]⟩) hx2
      · unfold zX10_tells_60b
        have e23 : Int32.toInt (q.1 0 23) = ((g0 + T : Nat) : Int) := by rw [hR.1 0 23 (by decide)]; exact hK.2.2.2.1
        refine dA_le (fun _ => dA_some ⟨?_, hR⟩) (fun c => by omega)
        have hb := TL_b (hd := Int32.toInt hd) (K := fun i => Int32.toInt (K i)) (H := H) (S := S) hx0 i
        show Int32.toInt (Int64.toInt32 x3) = _
        rw [l2i (by omega) (by omega), hx, s1]
  exact key dF 0 q x3 (by omega) hE.1 (Or.inl ⟨by omega, by rw [h0]; exact hE⟩) (h3.trans rfl)
