/-! orders run: a clause, as often as it says -/
def kW (q o : dK) : Prop := (∀ j k : Nat, ¬ j = 19 → ¬ j = 23 → ¬ (j = 18 ∧ k = 1) → o.1 j k = q.1 j k) ∧ o.2 = q.2
theorem kW.w {q o : dK} (h : k23 q o) : kW q o := ⟨fun j k _ h2 _ => h.1 j k h2, h.2⟩
theorem kW.v {q o : dK} (h : vfr q o) : kW q o := ⟨fun j k h1 _ h3 => h.1 j k h1 h3, h.2⟩
theorem kW.t {q o u : dK} (h : kW q o) (k : kW o u) : kW q u := ⟨fun j i h1 h2 h3 => (k.1 j i h1 h2 h3).trans (h.1 j i h1 h2 h3), k.2.trans h.2⟩
theorem kW.at {q o : dK} (h : kW q o) : aT 2 o = aT 2 q := by
  have e2 : o.1 2 = q.1 2 := funext (fun k => h.1 2 k (by decide) (by decide) (by omega))
  have e3 : o.1 3 = q.1 3 := funext (fun k => h.1 3 k (by decide) (by decide) (by omega))
  have e4 : o.1 4 = q.1 4 := funext (fun k => h.1 4 k (by decide) (by decide) (by omega))
  unfold aT
  rw [e2, e3, e4]
theorem kW.o {q o : dK} (h : kW q o) : kO q o := ⟨fun j k h1 h2 _ _ => h.1 j k (fun z => h1 (by rw [z]; decide)) (fun z => h1 (by rw [z]; decide)) h2, fun _ _ => by rw [h.2], by rw [h.2], h.1 21 8 (by decide) (by decide) (by decide)⟩
section X30
variable {N : Int} {Q : Int → Prop} {q0 : dK} {p0 : dS} {cs vs : Nat → Int} {T : Nat}
theorem ORI.c {q o : dK} {q2 : dS} (h : ORI N Q q0 p0 q q2) (hT : TC o) (k : kW q o) : ORI N Q q0 p0 o q2 := by
  obtain ⟨h1, h2, h3, h4, h5, h6, h7, h8, h9⟩ := h
  refine ⟨hT, by rw [k.1 2 4 (by decide) (by decide) (by decide)]; exact h2, h3.q (fun i => k.1 2 i (by decide) (by decide) (by omega)) (fun i => k.1 3 i (by decide) (by decide) (by omega)) (fun i => k.1 4 i (by decide) (by decide) (by omega)) (fun _ _ => rfl), h4.fr (k.1 10 2 (by decide) (by decide) (by decide)) (by rw [k.2]) (fun i => k.1 12 i (by decide) (by decide) (by omega)) rfl (fun _ => rfl) rfl, ?_, ?_, h7.t k.o, h8, h9⟩
  · rw [k.1 22 2 (by decide) (by decide) (by decide)]; exact h5
  · rw [k.1 22 3 (by decide) (by decide) (by decide)]; exact h6
theorem ORI.g {q : dK} {q2 o2 : dS} (h : ORI N Q q0 p0 q q2) (k : ∀ j i : Nat, ¬ (j = 0 ∧ ((22 ≤ i ∧ i ≤ 25) ∨ (47 ≤ i ∧ i ≤ 51))) → o2.1 j i = q2.1 j i) : ORI N Q q0 p0 q o2 := by
  obtain ⟨h1, h2, h3, h4, h5, h6, h7, h8, h9⟩ := h
  refine ⟨h1, h2, h3.q (fun _ => rfl) (fun _ => rfl) (fun _ => rfl) (fun i _ => k 2 i (by omega)), h4.fr rfl rfl (fun _ => rfl) (k 0 32 (by omega)) (fun i => k 14 i (by omega)) (k 2 29 (by omega)), ?_, ?_, h7, ⟨fun j i j2 j12 j13 j14 j0 => (k j i (by omega)).trans (h8.1 j i j2 j12 j13 j14 j0), fun i hi => (k 2 i (by omega)).trans (h8.2 i hi)⟩, hm_fm ⟨funext (fun i => k 2 i (by omega)), funext (fun i => k 14 i (by omega)), funext (fun i => k 15 i (by omega)), funext (fun i => k 5 i (by omega)), k 0 32 (by omega)⟩ h9⟩
  · rw [k 0 27 (by omega)]; exact h5
  · rw [k 0 28 (by omega)]; exact h6
/-- what is known ahead: the law, the mood, the tokens, the ranks -/
def BF (cs vs : Nat → Int) (T : Nat) (Q : Int → Prop) (q0 : dK) (p0 : dS) : Prop := LRf q0 p0 ∧ Int32.toInt (q0.1 21 8) = Int32.toInt (p0.1 2 27) ∧ T ≤ 400 ∧ (∀ j : Nat, j < T → Int32.toInt (p0.1 2 (40 + (2400 + j))) = cs j ∧ Int32.toInt (p0.1 2 (2840 + (2400 + j))) = vs j) ∧ cs T = 0 ∧ ∀ r : Int, Q r → r < 6
theorem or_in (hB : BF cs vs T Q q0 p0) {i : Nat} {X7 : Int32} (hX7 : Int32.toInt X7 = (i : Int)) (hi : i < 12) {t w a b c : Nat} {kd tm : Int} (e26 : Int32.toInt (q0.1 26 i) = kd) (e27 : Int32.toInt (q0.1 27 i) = tm) (e28 : Int32.toInt (q0.1 28 i) = (a : Int)) (e29 : Int32.toInt (q0.1 29 i) = (b : Int)) (e30 : Int32.toInt (q0.1 30 i) = (c : Int)) (hab : a ≤ b) (hbc : b ≤ c) (hc4 : c ≤ 400) (hC : CLR 1 17 cs vs (q0.1 31) kd tm a b c t w) (htT : t ≤ T) (r1 : Int64) (p1 : Int32) (hp1 : Int32.toInt p1 = ((2400 + T : Nat) : Int)) {k24 : dK → Int64 → Int32 → Option (Int32 × dK)} {K : Int32 → dS → Option (Int32 × dS)} {PP : Int32 × dK → Int32 × dS → Prop}
    (hend : ∀ (q : dK) (q2 : dS), ORI N Q q0 p0 q q2 → Int32.toInt (q2.1 0 47) = ((2400 + (w + 1) : Nat) : Int) → d2 (k24 q r1 (X7 + 1)) (K 1 q2) PP)
    (hfail : ∀ (q : dK) (q2 : dS), TC q → kO q0 q → mO p0 q2 → d2 (dV (zX8_unpack_s2 q r1) (fun q7 => dV (zX0_backToMark_s10 q7) (fun q10 => some (X7, q10)))) (K 0 q2) PP)
    (q : dK) (q2 : dS) (x2 x3 : Int32) (hO : ORI N Q q0 p0 q q2) (h47 : Int32.toInt (q2.1 0 47) = ((2400 + t : Nat) : Int)) (hx2 : Int32.toInt x2 = tm) (hx3 : Int32.toInt x3 = ((2400 + (w + 1) : Nat) : Int)) : d2 (zX5_run_s22_s25_s2_s20_s10_36 k24 dF q r1 X7 0) (dB (zX10_runs_19 dF q2 p1 x2 x3 0) K) PP := by
  have d0 : Int32.toInt 0 = 0 := by decide
  have d1 : Int32.toInt 1 = 1 := by decide
  have dm3 : Int32.toInt (-3) = -3 := by decide
  obtain ⟨BL, BM, BT, Btk, BcT, BQ⟩ := hB
  obtain ⟨u, v, f, g, c1, c2, c3, c4⟩ := hC
  have hk : 0 ≤ kd ∧ kd < 4 ∧ cs t = 22 + kd := by
    rcases c1 with z | z
    · exact absurd z.1 (by decide)
    · exact z.2
  have hm : (cs u = 26 ∧ cs (u + 1) = 50 ∧ tm = vs (u + 1) ∧ v = u + 2) ∨ (¬ cs u = 26 ∧ tm = 1 ∧ v = u) := by
    rcases c3 with z | z
    · exact Or.inl ⟨z.2.1, z.2.2.1, z.2.2.2.2.2.1, z.2.2.2.2.2.2⟩
    · exact Or.inr ⟨fun y => z.1 ⟨rfl, y⟩, z.2⟩
  have htm : tm ≤ 20 := by
    rcases c3 with z | z
    · have z1 := z.2.2.2.2.1
      have z2 := z.2.2.2.2.2.1
      omega
    · have z1 := z.2.1
      omega
  have hsum : (¬ kd = 3 ∧ Sp 1 cs vs 2 (t + 1) u f ∧ ex2 cs u ∧ Cd (q0.1 31) 17 a b 19 0 f) ∨ (kd = 3 ∧ u = t + 1 ∧ a = b) := by
    rcases c2 with ⟨z, z2⟩ | ⟨z, z2⟩
    · rcases z with z | z
      · exact absurd z.1 (by decide)
      · exact Or.inl ⟨z.2, z2⟩
    · rcases z with z | z
      · exact absurd z.1 (by decide)
      · exact Or.inr ⟨z.2, z2⟩
  have n7 : Int32.toNatClampNeg X7 = i := by have z := cl_eq (i := X7) (by omega); omega
  unfold zX5_run_s22_s25_s2_s20_s10_36 zX10_runs_19
  refine d2_fixB (fun (z : dK × Int64 × Int32 × Int32) (y : dS × Int32 × Int32 × Int32 × Int32) => z.2.1 = r1 ∧ z.2.2.1 = X7 ∧ y.2.1 = p1 ∧ Int32.toInt y.2.2.1 = tm ∧ Int32.toInt y.2.2.2.1 = ((2400 + (w + 1) : Nat) : Int) ∧ Int32.toInt z.2.2.2 = Int32.toInt y.2.2.2.2 ∧ 0 ≤ Int32.toInt z.2.2.2 ∧ ORI N Q q0 p0 z.1 y.1 ∧ Int32.toInt (y.1.1 0 47) = ((2400 + t : Nat) : Int)) ?_ dF dF _ _ ⟨rfl, rfl, rfl, hx2, hx3, rfl, by show 0 ≤ Int32.toInt 0; omega, hO, h47⟩
  clear hO h47 hx2 hx3
  intro k36 k19 hkk z y hz
  obtain ⟨qa, y5, y7, y8⟩ := z
  obtain ⟨qm, w1, w2, w3, w4⟩ := y
  obtain ⟨h1, h2, h3, h4, h5, h6, h7, hO, h47⟩ := hz
  replace h1 : r1 = y5 := Eq.symm h1
  replace h2 : X7 = y7 := Eq.symm h2
  replace h3 : p1 = w1 := Eq.symm h3
  replace h4 : Int32.toInt w2 = tm := h4
  replace h5 : Int32.toInt w3 = ((2400 + (w + 1) : Nat) : Int) := h5
  replace h6 : Int32.toInt y8 = Int32.toInt w4 := h6
  replace h7 : 0 ≤ Int32.toInt y8 := h7
  replace hO : ORI N Q q0 p0 qa qm := hO
  replace h47 : Int32.toInt (qm.1 0 47) = ((2400 + t : Nat) : Int) := h47
  subst h1 h2 h3
  show d2 (zX5_run_s22_s25_s2_s20_s10_36b k24 (fun q x5 x7 x8 => k36 (q, x5, x7, x8)) qa r1 X7 y8) (dB (zX10_runs_19b (fun q x1 x2 x3 x4 => k19 (q, x1, x2, x3, x4)) qm p1 w2 w3 w4) K) PP
  have hO0 := hO
  obtain ⟨o1, oy, o2, o3, o4, o5, o6, o7, o8⟩ := hO
  have rw0 : ∀ j k : Nat, (26 ≤ j ∧ j ≤ 31) → qa.1 j k = q0.1 j k := fun j k hj => o6.1 j k (by simp only [List.mem_cons, List.not_mem_nil, or_false, not_or]; omega) (by omega) (by omega) (by omega)
  unfold zX5_run_s22_s25_s2_s20_s10_36b zX10_runs_19b
  rw [n7]
  refine d2_lG (fun _ => d2_lL (fun v2 ev2 => ?_))
  have tv2 : Int32.toInt v2 = tm := by rw [ev2, rw0 27 i (by omega)]; exact e27
  refine d2_lif (fun cc => ?_) (fun cc => ?_)
  · have c' := Int32.le_iff_toInt_le.mp cc
    refine d2_rBif (fun _ => d2_rBL (fun q1 e1 => ?_)) (fun ww => absurd (Int32.le_iff_toInt_le.mpr (by omega)) ww)
    show d2 (k24 qa r1 (X7 + 1)) (K 1 q1) PP
    exact hend qa q1 (hO0.g (fun j k hj => by rw [e1, dui_x (by omega)])) (by rw [e1, dui_e]; exact h5)
  have c' : ¬ Int32.toInt v2 ≤ Int32.toInt y8 := fun ww => cc (Int32.le_iff_toInt_le.mpr ww)
  refine d2_rBif (fun ww => absurd (Int32.le_iff_toInt_le.mp ww) (by omega)) (fun _ => ?_)
  have t8 : Int32.toInt (y8 + 1 : Int32) = Int32.toInt y8 + 1 := ti_add rfl d1 (by omega) (by omega)
  have t4 : Int32.toInt (w4 + 1 : Int32) = Int32.toInt w4 + 1 := ti_add rfl d1 (by omega) (by omega)
  have next : ∀ (qn : dK) (pn : dS), ORI N Q q0 p0 qn pn → Int32.toInt (pn.1 0 47) = ((2400 + t : Nat) : Int) → d2 (k36 (qn, r1, X7, y8 + 1)) (dB (k19 (pn, p1, w2, w3, w4 + 1)) K) PP := fun qn pn hn1 hn2 => hkk (qn, r1, X7, y8 + 1) (pn, p1, w2, w3, w4 + 1) ⟨rfl, rfl, rfl, h4, h5, by show Int32.toInt (y8 + 1) = Int32.toInt (w4 + 1); omega, by show 0 ≤ Int32.toInt (y8 + 1); omega, hn1, hn2⟩
  have f2 := rg_2_2 o1
  obtain ⟨n, hn⟩ : ∃ n : Nat, Int32.toInt (qa.1 2 2) = (n : Int) := ⟨(Int32.toInt (qa.1 2 2)).toNat, by omega⟩
  have hn6 : n ≤ 6 := by omega
  obtain ⟨A, hA⟩ : ∃ A : Nat → Int, wA qa n = A := ⟨_, rfl⟩
  have hAb : ∀ j : Nat, -2147483648 ≤ A j ∧ A j ≤ 2147483647 := by rw [← hA]; exact wA_b hn6
  refine d2_lV (dA_and (c_setWords qa hn hn6) (dA_of (ok_X5_setWords_s22_s2 qa o1))) (fun q5 z => ?_)
  obtain ⟨⟨z1, z2⟩, z3, -⟩ := z
  replace z3 : TC q5 := z3
  rw [hA] at z1
  have W5 : kW qa q5 := kW.w z2
  refine d2_lG (fun _ => d2_lL (fun v7 e7 => d2_lG (fun _ => d2_lL (fun v9 e9 => ?_))))
  have t7 : Int32.toInt v7 = (b : Int) := by rw [e7, z2.1 29 i (by decide), rw0 29 i (by omega)]; exact e29
  have t9 : Int32.toInt v9 = (c : Int) := by rw [e9, z2.1 30 i (by decide), rw0 30 i (by omega)]; exact e30
  have hHM := o8
  obtain ⟨⟨m1, m2, m3⟩, -⟩ := hHM
  have hm29 : Int32.toInt (qm.1 2 29) = (n : Int) := o2.1.symm.trans hn
  have hdj : DJ n (fun i => Int32.toInt (qm.1 2 i)) := fun x y hx hy e => m3 x y (by omega) (by omega) (by show Int32.toInt (qm.1 2 (0 + x)) = Int32.toInt (qm.1 2 (0 + y)); rw [Nat.zero_add, Nat.zero_add]; exact e)
  have hr6 : ∀ x : Nat, x < n → Int32.toInt (qm.1 2 x) < 6 := fun x hx => BQ _ ((m2 _).mp ⟨x, by omega, by show Int32.toInt (qm.1 2 (0 + x)) = _; rw [Nat.zero_add]⟩)
  have hEK : ∀ q' : dS, (∀ j k : Nat, ¬ (j = 0 ∧ ((22 ≤ k ∧ k ≤ 25) ∨ (48 ≤ k ∧ k ≤ 51))) → q'.1 j k = qm.1 j k) → EKo q' A := by
    intro q' hq'
    rw [← hA]
    have er : (fun i => Int32.toInt (q'.1 2 i)) = fun i => Int32.toInt (qm.1 2 i) := funext (fun i => by rw [hq' 2 i (by omega)])
    exact EKo_of (o2.m (fun k => hq' 2 k (by omega))) hn hn6 (by rw [hq' 0 27 (by omega), o4]) (by rw [hq' 0 28 (by omega), o5]) (by rw [er]; exact hdj) (fun x hx => by rw [hq' 2 x (by omega)]; exact hr6 x hx)
  obtain ⟨S, hSd⟩ : ∃ S : Option Int, S = if kd = 3 then some 0 else f A := ⟨_, rfl⟩
  have hs : (¬ kd = 3 ∧ Sp 1 cs vs 2 (t + 1) u f ∧ ex2 cs u ∧ S = f A) ∨ (kd = 3 ∧ u = t + 1 ∧ S = some 0) := by
    rcases hsum with z | z
    · exact Or.inl ⟨z.1, z.2.1, z.2.2.1, by rw [hSd, if_neg z.1]⟩
    · exact Or.inr ⟨z.1, z.2.1, by rw [hSd, if_pos z.1]⟩
  have ht : (cs v = 4 ∧ Sp 1 cs vs 6 (v + 1) w g ∧ ex6 cs w) ∨ (¬ cs v = 4 ∧ w = v) := by
    rcases c4 with z | z
    · exact Or.inl ⟨z.1, z.2.1, z.2.2.1⟩
    · exact Or.inr ⟨z.1, z.2.1⟩
  refine d2_rBV (m_along (A := A) (S := S) qm p1 1 BT (fun j hj => by rw [o7.2 _ (by omega), o7.2 _ (by omega)]; exact Btk j hj) BcT hAb hEK hp1 h47 htT hk hs hm ht) (fun qg zz => ?_)
  obtain ⟨g49, g48, gv, g22, gf⟩ := zz
  obtain ⟨gv1, gv2⟩ := gv (by decide)
  have Og : ORI N Q q0 p0 qa qg := hO0.g (fun j k hj => gf j k (by omega))
  have g47 : Int32.toInt (qg.1 0 47) = ((2400 + t : Nat) : Int) := by rw [gf 0 47 (by omega)]; exact h47
  have hTe : dAll (zX2_valueOf_s18_s25_s23 q5 v7 v9) (fun o => vfr q5 o.2 ∧ (o.1 = 1 ↔ (¬ cs v = 4 ∨ g A = some 1))) := by
    rcases c4 with ⟨k1, k2, k3, k4⟩ | ⟨k1, k2, k3⟩
    · refine dA_mono (voTop A v7 v9 (q0.1 31) k4 (by decide) q5 (funext (fun k => by rw [z2.1 31 k (by decide), rw0 31 k (by omega)])) t7 t9 hc4 z1) (fun o zo => ⟨⟨zo.1, zo.2.1⟩, fun ho => Or.inr ?_, fun ho => ?_⟩)
      · rcases zo.2.2 with ⟨x, x1, x2, -⟩ | ⟨-, x2, -⟩
        · rw [x1, ← x2, ho]; exact congrArg some d1
        · rw [x2] at ho; exact absurd ho (by decide)
      · rcases ho with ho | ho
        · exact absurd k1 ho
        · rcases zo.2.2 with ⟨x, x1, x2, -⟩ | ⟨x1, -⟩
          · rw [x1] at ho
            exact i_eq (x2.trans ((Option.some.inj ho).trans d1.symm))
          · rw [x1] at ho; cases ho
    · exact dA_mono (voEmp v7 v9 q5 (by omega)) (fun o zo => ⟨⟨zo.1, zo.2.1⟩, fun _ => Or.inl k1, fun _ => zo.2.2.1⟩)
  refine d2_lB (dA_and hTe (dA_of (ok_X2_valueOf_s18_s25_s23 q5 v7 v9 z3 (by omega)))) (fun r10 q12 y => ?_)
  obtain ⟨⟨y1, y2⟩, y3, -⟩ := y
  replace y1 : vfr q5 q12 := y1
  replace y2 : r10 = 1 ↔ (¬ cs v = 4 ∨ g A = some 1) := y2
  replace y3 : TC q12 := y3
  have W12 : kW qa q12 := W5.t (kW.v y1)
  unfold zX10_runs_67 zX10_runs_55
  refine d2_lif (fun c10 => ?_) (fun c10 => ?_)
  · have h51 : qg.1 0 51 = 1 := by
      rcases gv1 with x | x
      · exact x.1
      · exact absurd (y2.mp c10) x.2
    refine d2_rBif (fun ww => by rw [h51] at ww; exact absurd ww (by decide)) (fun _ => ?_)
    refine d2_lB (dA_and (dA_of (ok2_X8_pack_s2 q12 y3)) (dA_of (ok_X8_pack_s2 q12 y3))) (fun r13 q15 x => ?_)
    obtain ⟨⟨x1, x2⟩, -, x3⟩ := x
    replace x1 : q12 = q15 := Eq.symm x1
    replace x2 : r13.toInt = pk (aT 2 q12) := x2
    replace x3 : 0 ≤ r13.toInt := x3
    subst x1
    have rw12 : ∀ j k : Nat, (26 ≤ j ∧ j ≤ 31) → q12.1 j k = q0.1 j k := fun j k hj => (W12.1 j k (by omega) (by omega) (by omega)).trans (rw0 j k hj)
    refine d2_lG (fun _ => d2_lL (fun v17 e17 => d2_lG (fun _ => d2_lL (fun v19 e19 => d2_lG (fun _ => d2_lL (fun v21 e21 => ?_))))))
    have t17 : Int32.toInt v17 = kd := by rw [e17, rw12 26 i (by omega)]; exact e26
    have t19 : Int32.toInt v19 = (a : Int) := by rw [e19, rw12 28 i (by omega)]; exact e28
    have t21 : Int32.toInt v21 = (b : Int) := by rw [e21, rw12 29 i (by omega)]; exact e29
    have hSu : dAll (zX2_valueOf_s18_s25_s23 q12 v19 v21) (fun o => vfr q12 o.2 ∧ ((o.2.1 18 1 = 0 ∧ ∃ s : Int, S = some s ∧ (¬ kd = 3 → s = Int32.toInt o.1)) ∨ (¬ o.2.1 18 1 = 0 ∧ S = none))) := by
      rcases hsum with ⟨k1, -, -, k4⟩ | ⟨k1, -, k3⟩
      · refine dA_mono (voTop A v19 v21 (q0.1 31) k4 (by decide) q12 (funext (fun k => rw12 31 k (by omega))) t19 t21 (by omega) (fun k hk17 => by rw [y1.1 23 k (by decide) (by omega)]; exact z1 k hk17)) (fun o zo => ⟨⟨zo.1, zo.2.1⟩, ?_⟩)
        rw [hSd, if_neg k1]
        rcases zo.2.2 with ⟨x, x1, x2, x3⟩ | ⟨x1, -, x3⟩
        · exact Or.inl ⟨x3, x, x1, fun _ => x2.symm⟩
        · exact Or.inr ⟨x3, x1⟩
      · refine dA_mono (voEmp v19 v21 q12 (by omega)) (fun o zo => ⟨⟨zo.1, zo.2.1⟩, Or.inl ⟨zo.2.2.2, 0, by rw [hSd, if_pos k1], fun kk => absurd k1 kk⟩⟩)
    refine d2_lB (dA_and hSu (dA_of (ok_X2_valueOf_s18_s25_s23 q12 v19 v21 y3 (by omega)))) (fun r22 q24 xx => ?_)
    obtain ⟨⟨s1, s2⟩, s3, -⟩ := xx
    replace s1 : vfr q12 q24 := s1
    replace s2 : (q24.1 18 1 = 0 ∧ ∃ s : Int, S = some s ∧ (¬ kd = 3 → s = Int32.toInt r22)) ∨ (¬ q24.1 18 1 = 0 ∧ S = none) := s2
    replace s3 : TC q24 := s3
    have W24 : kW qa q24 := W12.t (kW.v s1)
    have O24 : ORI N Q q0 p0 q24 qg := Og.c s3 W24
    refine d2_lif (fun c18 => ?_) (fun c18 => ?_)
    · obtain ⟨s, hs1, hs2⟩ : ∃ s : Int, S = some s ∧ (¬ kd = 3 → s = Int32.toInt r22) := by
        rcases s2 with s2 | s2
        · exact s2.2
        · exact absurd c18 s2.1
      obtain ⟨h50, h52⟩ : qg.1 0 50 = 1 ∧ S = some (Int64.toInt (qg.2 0 52)) := by
        rcases gv2 with x | x
        · exact x
        · rw [hs1] at x; cases x.2
      have hs52 : s = Int64.toInt (qg.2 0 52) := by rw [hs1] at h52; exact Option.some.inj h52
      refine d2_rBif (fun ww => by rw [h50] at ww; exact absurd ww (by decide)) (fun _ => ?_)
      have hO24 := O24
      obtain ⟨p1', p2', p3', p4', p5', p6', p7', p8', p9'⟩ := hO24
      obtain ⟨n', n1, n2, n3, n4⟩ := p4'
      have hA1 := ja_obeys (q := q24) (q2 := qg) v17 r22 s3 (BL.s2 (p7'.1 20 2 (by decide) (by decide) (by decide) (by decide)) p7'.2.2.1 (fun k hk => p8'.2 k hk)) p3' (by rw [p7'.2.2.2, p8'.2 27 (by decide)]; exact BM) n3 n1 p2' (by omega) (by omega) (fun kk => by rw [← hs52]; exact hs2 (by omega))
      have hX1 := dA_and (dA_of (ok_X8_act_s2_s20 q24 v17 r22 s3)) (c_actY q24 v17 r22 s3 p2')
      have hY1 := dm_obeys qg p9'
      refine d2_BBB (R := fun o o2 => OBY v17 n' q24 qg o o2 ∧ (TC o.2 ∧ Int32.toInt (o.2.1 2 4) ≤ 999) ∧ HM o2.2 N Q) (fun o o2 ea eb => ⟨hA1 o o2 ea eb, ⟨(hX1 o ea).1.1, (hX1 o ea).2⟩, hY1 o2 eb⟩) (fun r25 q27 r5 q7 ww => ?_)
      obtain ⟨⟨a1, a2⟩, ⟨b1, b2⟩, hM7⟩ := ww
      replace a1 : r25 = r5 := a1
      subst a1
      replace a2 : (Int32.toInt r25 < 0 ∧ kfr q24 q27 ∧ ∀ j k : Nat, ¬ j = 12 → ¬ (j = 0 ∧ 22 ≤ k ∧ k ≤ 25) → q7.1 j k = qg.1 j k) ∨ (0 ≤ Int32.toInt r25 ∧ TWR 2 q27 (q7.1 2) ∧ kR [2, 3, 4, 19, 21] q24 q27 ∧ q7.1 0 28 = (if v17 = 0 then r25 else qg.1 0 28) ∧ KPO v17 n' qg q7) := a2
      replace b1 : TC q27 := b1
      replace b2 : Int32.toInt (q27.1 2 4) ≤ 999 := b2
      replace hM7 : HM q7 N Q := hM7
      unfold zX5_run_s22_s25_s2_s20_s10_150
      rcases a2 with ⟨a3, a4, a5⟩ | ⟨a3, a4, a5, a6, a7⟩
      · refine d2_lif (fun ww => absurd (Int32.le_iff_toInt_le.mp ww) (by omega)) (fun _ => ?_)
        refine d2_rBif (fun ww => absurd (Int32.le_iff_toInt_le.mp ww) (by omega)) (fun _ => ?_)
        exact hfail q27 q7 b1 (p7'.t (kO.kf (kf_R2 a4))) (p8'.t ⟨fun j k j2 j12 j13 j14 j0 => a5 j k j12 (by omega), fun k hk => a5 2 k (by decide) (by omega)⟩)
      · refine d2_lif (fun _ => ?_) (fun ww => absurd (Int32.le_iff_toInt_le.mpr (by omega)) ww)
        refine d2_rBif (fun _ => d2_rBL (fun q8 e8 => ?_)) (fun ww => absurd (Int32.le_iff_toInt_le.mpr (by omega)) ww)
        have e10 : Int32.toInt (q27.1 10 2) = (n' : Int) := by rw [a5.1 10 2 (by decide) (by decide)]; exact n2
        refine d2_lV (dA_and (c_keep q27 v17 r13 e10 n1) (dA_of (ok_X0_keep_s10 q27 v17 r13 b1 x3))) (fun q3 kp => d2_lL (fun q4' e4' => ?_))
        obtain ⟨⟨k1, k2, k3⟩, k4, -⟩ := kp
        replace k4 : TC q3 := k4
        have m8 : ∀ j k : Nat, ¬ (j = 0 ∧ k = 27) → q8.1 j k = q7.1 j k := fun j k hj => by rw [e8, dui_x hj]
        obtain ⟨u1, u2, u3, u4⟩ := a7
        have r28 : q8.1 0 28 = (if v17 = 0 then r25 else qg.1 0 28) := by rw [m8 0 28 (by decide)]; exact a6
        have fin : ∀ (y0 : Int32) (q9 : dK), q9 = cui q4' 22 3 y0 → y0 = q8.1 0 28 → d2 (k36 (q9, r1, X7, y8 + 1)) (dB (k19 (q8, p1, w2, w3, w4 + 1)) K) PP := by
          intro y0 q9 e9 ey
          have c9 : ∀ j k : Nat, ¬ j = 12 → ¬ (j = 10 ∧ k = 2) → ¬ (j = 22 ∧ (k = 2 ∨ k = 3)) → q9.1 j k = q27.1 j k := fun j k j12 j10 j22 => by rw [e9, cui_x (by omega), e4', cui_x (by omega)]; exact k3.1 j k j12 j10
          have c12 : ∀ k : Nat, q9.1 12 k = q3.1 12 k := fun k => by rw [e9, cui_o (by decide), e4', cui_o (by decide)]
          have c10 : q9.1 10 2 = q3.1 10 2 := by rw [e9, cui_o (by decide), e4', cui_o (by decide)]
          have x9 : q9.2 = q3.2 := by rw [e9, e4']; rfl
          refine next q9 q8 ⟨by rw [e9, e4']; exact sa_22_3 (sa_22_2 k4), ?_, ?_, ?_, ?_, ?_, ?_, ?_, by rw [e8]; exact hm_0 (by decide) hM7⟩ ?_
          · rw [c9 2 4 (by decide) (by decide) (by decide)]; exact b2
          · exact a4.q (fun k => c9 2 k (by decide) (by omega) (by omega)) (fun k => c9 3 k (by decide) (by omega) (by omega)) (fun k => c9 4 k (by decide) (by omega) (by omega)) (fun k _ => m8 2 k (by omega))
          · have f11 : q27.2.1 11 = q24.2.1 11 := by rw [a5.2.1]
            have f12 : q27.1 12 = q24.1 12 := funext (fun k => a5.1 12 k (by decide) (by omega))
            refine jh_keep (q := q24) (q2 := qg) (x := r13) (kd := v17) (n := n') n1 n4 (HI_pk v17 s3 p3' (by rw [x2, (kW.v s1).at])) (by rw [c10]; exact k1) (fun i hi => ?_) ?_ (fun i k hi hk => ?_) ?_
            · rw [x9, c12, ← f11, ← f12]; exact k2 i hi
            · rw [m8 0 32 (by decide)]; exact u1
            · rw [m8 14 _ (by omega)]; exact u2 i k hi hk
            · rw [m8 2 29 (by decide)]; exact u4 29 (by decide)
          · have l1 : q9.1 22 2 = q3.1 22 2 + 1 := by rw [e9, cui_n (by decide), e4', cui_e]
            have l2 : q8.1 0 27 = q7.1 0 27 + 1 := by rw [e8, dui_e]
            rw [l1, l2, k3.1 22 2 (by decide) (by decide), a5.1 22 2 (by decide) (by decide), p5', u3 0 27 (by decide) (by decide) (by decide) (by decide) (by omega)]
          · rw [e9, cui_e]; exact ey
          · refine p7'.t ⟨fun j k h1 h2 h3 h4 => ?_, fun j hj => ?_, ?_, ?_⟩
            · rw [c9 j k (fun zz => h1 (by rw [zz]; decide)) h3 h4]; exact (kO.kf a5).1 j k h1 h2 h3 h4
            · rw [x9, k3.2.1 j hj, a5.2.1]
            · rw [x9, k3.2.2, a5.2.1]
            · rw [c9 21 8 (by decide) (by decide) (by decide)]; exact a5.2.2
          · exact p8'.t ⟨fun j k j2 j12 j13 j14 j0 => by rw [m8 j k (by omega)]; exact u3 j k j2 j12 j13 j14 (by omega), fun k hk => by rw [m8 2 k (by omega)]; exact u4 k hk⟩
          · rw [m8 0 47 (by decide), u3 0 47 (by decide) (by decide) (by decide) (by decide) (by omega)]; exact g47
        unfold zX5_run_s22_s25_s2_s20_s10_205 zX5_run_s22_s25_s2_s20_s10_208
        refine d2_lif (fun c0 => d2_lL (fun q9 e9 => fin r25 q9 e9 (by rw [r28, if_pos c0]))) (fun c0 => d2_lL (fun q9 e9 => fin _ q9 e9 ?_))
        rw [r28, if_neg c0, e4', cui_n (by decide), k3.1 22 3 (by decide) (by decide), a5.1 22 3 (by decide) (by decide), p6']
    · have hSn : S = none := by
        rcases s2 with s2 | s2
        · exact absurd s2.1 c18
        · exact s2.2
      have h50 : qg.1 0 50 = 0 := by
        rcases gv2 with x | x
        · rw [hSn] at x; cases x.2
        · exact x.1
      refine d2_rBif (fun _ => ?_) (fun ww => absurd h50 ww)
      unfold zX5_run_s22_s25_s2_s20_s10_150
      refine d2_lif (fun ww => absurd (Int32.le_iff_toInt_le.mp ww) (by omega)) (fun _ => ?_)
      exact hfail q24 qg s3 O24.2.2.2.2.2.2.1 O24.2.2.2.2.2.2.2.1
  · have h51 : qg.1 0 51 = 0 := by
      rcases gv1 with x | x
      · exact absurd (y2.mpr x.2) c10
      · exact x.1
    refine d2_rBif (fun _ => ?_) (fun ww => absurd h51 ww)
    unfold zX5_run_s22_s25_s2_s20_s10_208
    exact next q12 qg (Og.c y3 W12) g47
end X30
