/-! orders: the words, here and there -/
def k23 (q o : dK) : Prop := (∀ j k : Nat, ¬ j = 23 → o.1 j k = q.1 j k) ∧ o.2 = q.2
def wA (q : dK) (n : Nat) : Nat → Int := fun k => if k = 0 then Int32.toInt (q.1 2 4) else if k = 1 then Int32.toInt (q.1 22 2) else if k = 2 then Int32.toInt (q.1 22 3) else if k = 3 then Int32.toInt (q.1 2 3) else if k = 4 then (gpT (fun i => Int32.toInt (q.1 3 i)) n : Int) else if k < 11 then (if k - 5 < n then Int32.toInt (q.1 3 (k - 5)) else -1) else if k < 17 then (if k - 11 < n then Int32.toInt (q.1 4 (k - 11)) else -1) else 0
theorem wA_r {q : dK} {n j : Nat} (hj : j < 6) : wA q n (5 + j) = if j < n then Int32.toInt (q.1 3 j) else -1 := by
  unfold wA
  rw [if_neg (by omega), if_neg (by omega), if_neg (by omega), if_neg (by omega), if_neg (by omega), if_pos (by omega), show 5 + j - 5 = j by omega]
theorem wA_h {q : dK} {n j : Nat} (hj : j < 6) : wA q n (11 + j) = if j < n then Int32.toInt (q.1 4 j) else -1 := by
  unfold wA
  rw [if_neg (by omega), if_neg (by omega), if_neg (by omega), if_neg (by omega), if_neg (by omega), if_neg (by omega), if_pos (by omega), show 11 + j - 11 = j by omega]
theorem wA_b {q : dK} {n : Nat} (hn : n ≤ 6) : ∀ j : Nat, -2147483648 ≤ wA q n j ∧ wA q n j ≤ 2147483647 := by
  intro j
  have g := gpT_b (fun i => Int32.toInt (q.1 3 i)) n
  unfold wA
  by_cases c0 : j = 0
  · rw [if_pos c0]; exact ti_rg _
  rw [if_neg c0]
  by_cases c1 : j = 1
  · rw [if_pos c1]; exact ti_rg _
  rw [if_neg c1]
  by_cases c2 : j = 2
  · rw [if_pos c2]; exact ti_rg _
  rw [if_neg c2]
  by_cases c3 : j = 3
  · rw [if_pos c3]; exact ti_rg _
  rw [if_neg c3]
  by_cases c4 : j = 4
  · rw [if_pos c4]; omega
  rw [if_neg c4]
  by_cases c5 : j < 11
  · rw [if_pos c5]
    by_cases d : j - 5 < n
    · rw [if_pos d]; exact ti_rg _
    · rw [if_neg d]; omega
  rw [if_neg c5]
  by_cases c6 : j < 17
  · rw [if_pos c6]
    by_cases d : j - 11 < n
    · rw [if_pos d]; exact ti_rg _
    · rw [if_neg d]; omega
  rw [if_neg c6]; omega
theorem c_setWords (q : dK) {n : Nat} (h2 : Int32.toInt (q.1 2 2) = (n : Int)) (hn : n ≤ 6) : dAll (zX5_setWords_s22_s2 q) (fun o => (∀ k : Nat, k < 17 → Int32.toInt (o.1 23 k) = wA q n k) ∧ k23 q o) := by
  have d0 : Int32.toInt 0 = 0 := by decide
  have d1 : Int32.toInt 1 = 1 := by decide
  have d5 : Int32.toInt 5 = 5 := by decide
  have d6 : Int32.toInt 6 = 6 := by decide
  have d11 : Int32.toInt 11 = 11 := by decide
  unfold zX5_setWords_s22_s2
  refine dA_L (fun q1 e1 => dA_L (fun q2 e2 => dA_L (fun q3 e3 => dA_L (fun q4 e4 => ?_))))
  have f4 : ∀ j k : Nat, ¬ j = 23 → q4.1 j k = q.1 j k := fun j k hj => by rw [e4, cui_o hj, e3, cui_o hj, e2, cui_o hj, e1, cui_o hj]
  have x4 : q4.2 = q.2 := by rw [e4, e3, e2, e1]; rfl
  refine dA_B (c_gaps q4 (n := n) (by rw [f4 2 2 (by decide)]; exact h2) hn) (fun r5 q7 z => dA_L (fun q8 e8 => ?_))
  obtain ⟨z1, z2⟩ := z
  replace z1 : q7 = q4 := z1
  rw [z1] at e8
  replace z2 : Int32.toInt r5 = (gpT (fun i => Int32.toInt (q4.1 3 i)) n : Int) := z2
  have ef : (fun i => Int32.toInt (q4.1 3 i)) = fun i => Int32.toInt (q.1 3 i) := funext (fun i => by rw [f4 3 i (by decide)])
  rw [ef] at z2
  have f8 : ∀ j k : Nat, ¬ j = 23 → q8.1 j k = q.1 j k := fun j k hj => by rw [e8, cui_o hj]; exact f4 j k hj
  have x8 : q8.2 = q.2 := by rw [e8]; exact x4
  have w8 : ∀ k : Nat, k < 5 → Int32.toInt (q8.1 23 k) = wA q n k := by
    intro k hk
    have hk5 : k = 0 ∨ k = 1 ∨ k = 2 ∨ k = 3 ∨ k = 4 := by omega
    rcases hk5 with e | e | e | e | e <;> subst e
    · rw [e8, cui_n (by decide), e4, cui_n (by decide), e3, cui_n (by decide), e2, cui_n (by decide), e1, cui_e]; rfl
    · rw [e8, cui_n (by decide), e4, cui_n (by decide), e3, cui_n (by decide), e2, cui_e, e1, cui_o (by decide)]; rfl
    · rw [e8, cui_n (by decide), e4, cui_n (by decide), e3, cui_e, e2, cui_o (by decide), e1, cui_o (by decide)]; rfl
    · rw [e8, cui_n (by decide), e4, cui_e, e3, cui_o (by decide), e2, cui_o (by decide), e1, cui_o (by decide)]; rfl
    · rw [e8, cui_e, z2]; rfl
  clear e8 e4 e3 e2 e1 z1 z2 ef f4 x4
  unfold zX5_setWords_s22_s2_52
  refine dA_fix (fun (a : dK × Int32) => (∀ j k : Nat, ¬ j = 23 → a.1.1 j k = q.1 j k) ∧ a.1.2 = q.2 ∧ (∀ k : Nat, k < 5 → Int32.toInt (a.1.1 23 k) = wA q n k) ∧ ∃ i : Nat, i ≤ 6 ∧ Int32.toInt a.2 = (i : Int) ∧ ∀ j : Nat, j < i → Int32.toInt (a.1.1 23 (5 + j)) = wA q n (5 + j) ∧ Int32.toInt (a.1.1 23 (11 + j)) = wA q n (11 + j)) ?_ dF _ ⟨f8, x8, w8, 0, by decide, d0, fun j hj => absurd hj (Nat.not_lt_zero j)⟩
  intro k52 hk a ha
  obtain ⟨qa, x2⟩ := a
  obtain ⟨a1, a2, a3, i, hi, a4, a5⟩ := ha
  replace a1 : ∀ j k : Nat, ¬ j = 23 → qa.1 j k = q.1 j k := a1
  replace a2 : qa.2 = q.2 := a2
  replace a3 : ∀ k : Nat, k < 5 → Int32.toInt (qa.1 23 k) = wA q n k := a3
  replace a4 : Int32.toInt x2 = (i : Int) := a4
  replace a5 : ∀ j : Nat, j < i → Int32.toInt (qa.1 23 (5 + j)) = wA q n (5 + j) ∧ Int32.toInt (qa.1 23 (11 + j)) = wA q n (11 + j) := a5
  show dAll (zX5_setWords_s22_s2_52b (fun q x2 => k52 (q, x2)) qa x2) _
  unfold zX5_setWords_s22_s2_52b
  refine dA_le (fun c => dA_some ⟨fun k hk => ?_, a1, a2⟩) (fun c => ?_)
  · by_cases c5 : k < 5
    · exact a3 k c5
    · by_cases c11 : k < 11
      · have z := (a5 (k - 5) (by omega)).1
        rw [show 5 + (k - 5) = k by omega] at z
        exact z
      · have z := (a5 (k - 11) (by omega)).2
        rw [show 11 + (k - 11) = k by omega] at z
        exact z
  · have t5 : Int32.toInt (5 + x2 : Int32) = 5 + (i : Int) := ti_add d5 a4 (by omega) (by omega)
    have t11 : Int32.toInt (11 + x2 : Int32) = 11 + (i : Int) := ti_add d11 a4 (by omega) (by omega)
    have n5 : Int32.toNatClampNeg (5 + x2 : Int32) = 5 + i := by have z := cl_eq (i := (5 + x2 : Int32)) (by omega); omega
    have n11 : Int32.toNatClampNeg (11 + x2 : Int32) = 11 + i := by have z := cl_eq (i := (11 + x2 : Int32)) (by omega); omega
    rw [n5, n11]
    refine dA_B (c_tell_s2 qa x2 0 a4 (Or.inl rfl)) (fun r1 q3 y => dA_G (fun _ => dA_L (fun q5 e5 => ?_)))
    obtain ⟨y1, y2⟩ := y
    replace y1 : q3 = qa := y1
    replace y2 : Int32.toInt r1 = if (i : Int) < Int32.toInt (qa.1 2 2) then (if (0 : Int32) = 0 then Int32.toInt (qa.1 3 i) else Int32.toInt (qa.1 4 i)) else -1 := y2
    rw [y1] at e5
    have f5 : ∀ j k : Nat, ¬ j = 23 → q5.1 j k = q.1 j k := fun j k hj => by rw [e5, cui_o hj]; exact a1 j k hj
    refine dA_B (c_tell_s2 q5 x2 1 a4 (Or.inr rfl)) (fun r6 q8' w => dA_G (fun _ => dA_L (fun q10 e10 => ?_)))
    obtain ⟨w1, w2⟩ := w
    replace w1 : q8' = q5 := w1
    replace w2 : Int32.toInt r6 = if (i : Int) < Int32.toInt (q5.1 2 2) then (if (1 : Int32) = 0 then Int32.toInt (q5.1 3 i) else Int32.toInt (q5.1 4 i)) else -1 := w2
    rw [w1] at e10
    rw [if_pos rfl, a1 2 2 (by decide), h2, a1 3 i (by decide)] at y2
    rw [if_neg (show ¬ (1 : Int32) = 0 by decide), f5 2 2 (by decide), h2, f5 4 i (by decide)] at w2
    have hin : ∀ u v : Int, (if (i : Int) < (n : Int) then u else v) = if i < n then u else v := fun u v => by
      by_cases ci : i < n
      · rw [if_pos ci, if_pos (by omega)]
      · rw [if_neg ci, if_neg (by omega)]
    rw [hin] at y2 w2
    refine hk (q10, x2 + 1) ⟨fun j k hj => ?_, ?_, fun k hk5 => ?_, i + 1, by omega, by show Int32.toInt (x2 + 1) = _; rw [ti_add a4 d1 (by omega) (by omega)]; omega, fun j hj => ⟨?_, ?_⟩⟩
    · show q10.1 j k = _
      rw [e10, cui_o hj]; exact f5 j k hj
    · show q10.2 = _
      rw [e10]
      show q5.2 = _
      rw [e5]; exact a2
    · show Int32.toInt (q10.1 23 k) = _
      rw [e10, cui_n (by omega), e5, cui_n (by omega)]; exact a3 k hk5
    · show Int32.toInt (q10.1 23 (5 + j)) = _
      rw [e10, cui_n (by omega), e5]
      by_cases cj : j = i
      · rw [cj, cui_e, y2, wA_r (by omega)]
      · rw [cui_n (by omega)]; exact (a5 j (by omega)).1
    · show Int32.toInt (q10.1 23 (11 + j)) = _
      rw [e10]
      by_cases cj : j = i
      · rw [cj, cui_e, w2, wA_h (by omega)]
      · rw [cui_n (by omega), e5, cui_n (by omega)]; exact (a5 j (by omega)).2
theorem EKo_of {q : dK} {q0 : dS} {n : Nat} (ht : TWR 2 q (q0.1 2)) (h2 : Int32.toInt (q.1 2 2) = (n : Int)) (hn : n ≤ 6) (h27 : Int32.toInt (q.1 22 2) = Int32.toInt (q0.1 0 27)) (h28 : Int32.toInt (q.1 22 3) = Int32.toInt (q0.1 0 28)) (hd : DJ n (fun i => Int32.toInt (q0.1 2 i))) (h6 : ∀ i : Nat, i < n → Int32.toInt (q0.1 2 i) < 6) : EKo q0 (wA q n) := by
  obtain ⟨t1, t2, t3, t4⟩ := ht
  intro q' hE
  have f : ∀ j k : Nat, ¬ (j = 0 ∧ (k = 22 ∨ k = 24)) → q'.1 j k = q0.1 j k := hE.1
  have ef : (fun i => Int32.toInt (q'.1 2 i)) = fun i => Int32.toInt (q0.1 2 i) := funext (fun i => by rw [f 2 i (by omega)])
  have hm : Int32.toInt (q'.1 2 29) = (n : Int) := by rw [f 2 29 (by decide), ← t1]; exact h2
  have hg : dAll (zX10_gaps q') (fun o => o.2 = q' ∧ Int32.toInt o.1 = (gpT (fun i => Int32.toInt (q.1 3 i)) n : Int)) := by
    refine dA_mono (m_gaps q' hm hn (by rw [ef]; exact hd) (fun i hi => by rw [f 2 i (by omega)]; exact h6 i hi)) (fun o z => ⟨z.1, z.2.trans ?_⟩)
    rw [ef, gpT_e (f := fun i => Int32.toInt (q0.1 2 i)) (g := fun i => Int32.toInt (q.1 3 i)) (fun i hi => (t2 i (by omega)).1.symm)]
  have d15 : Int32.toInt 15 = 15 := by decide
  refine ⟨fun j c k hj hc => ?_, fun j k hj hk => ⟨?_, ?_⟩⟩
  · have hj5 : j = 0 ∨ j = 1 ∨ j = 2 ∨ j = 3 ∨ j = 4 := by omega
    unfold zX10_orderValue
    rcases hj5 with e | e | e | e | e <;> subst e
    · have ec : c = 16 := i_eq (hc.trans (by decide))
      subst ec
      rw [if_neg (by decide), if_pos rfl]
      exact dA_some ⟨rfl, by show Int32.toInt (q'.1 2 13) = Int32.toInt (q.1 2 4); rw [f 2 13 (by decide)]; exact t4.symm⟩
    · have ec : c = 17 := i_eq (hc.trans (by decide))
      subst ec
      rw [if_neg (by decide), if_neg (by decide), if_pos rfl]
      exact dA_some ⟨rfl, by show Int32.toInt (q'.1 0 27) = Int32.toInt (q.1 22 2); rw [f 0 27 (by decide)]; exact h27.symm⟩
    · have ec : c = 18 := i_eq (hc.trans (by decide))
      subst ec
      rw [if_neg (by decide), if_neg (by decide), if_neg (by decide), if_pos rfl]
      exact dA_some ⟨rfl, by show Int32.toInt (q'.1 0 28) = Int32.toInt (q.1 22 3); rw [f 0 28 (by decide)]; exact h28.symm⟩
    · have ec : c = 19 := i_eq (hc.trans (by decide))
      subst ec
      rw [if_neg (by decide), if_neg (by decide), if_neg (by decide), if_neg (by decide), if_pos rfl]
      exact dA_some ⟨rfl, by show Int32.toInt (q'.1 2 12) = Int32.toInt (q.1 2 3); rw [f 2 12 (by decide)]; exact t3.symm⟩
    · have ec : c = 20 := i_eq (hc.trans (by decide))
      subst ec
      rw [if_neg (by decide), if_neg (by decide), if_neg (by decide), if_neg (by decide), if_neg (by decide), if_pos rfl]
      exact dA_B hg (fun r q3 z => dA_some z)
  · unfold zX10_orderValue zX10_orderValue_86
    rw [if_neg (by decide), if_neg (by decide), if_neg (by decide), if_neg (by decide), if_neg (by decide), if_neg (by decide), if_pos rfl]
    have d0 : Int32.toInt 0 = 0 := by decide
    have dm : Int32.toInt (-1) = -1 := by decide
    have tk : Int32.toInt (0 + k : Int32) = (j : Int) := by rw [ti_add d0 hk (by omega) (by omega)]; omega
    have nk : Int32.toNatClampNeg (0 + k : Int32) = j := by have z := cl_eq (i := (0 + k : Int32)) (by omega); omega
    rw [nk]
    refine dA_B (m_place q' k (by omega)) (fun r q3 z => ?_)
    obtain ⟨z1, z2⟩ := z
    replace z1 : q3 = q' := z1
    replace z2 : (r = 1 ∧ 0 ≤ Int32.toInt k ∧ Int32.toInt k < Int32.toInt (q'.1 2 29)) ∨ (r = 0 ∧ ¬ (0 ≤ Int32.toInt k ∧ Int32.toInt k < Int32.toInt (q'.1 2 29))) := z2
    rw [z1]
    rcases z2 with ⟨z2, z3⟩ | ⟨z2, z3⟩
    · rw [if_neg (by rw [z2]; decide)]
      refine dA_G (fun _ => dA_L (fun v e => dA_some ⟨rfl, ?_⟩))
      show Int32.toInt v = _
      rw [wA_r hj, if_pos (by omega), e, f 2 j (by omega)]; exact (t2 j hj).1.symm
    · rw [if_pos z2]
      refine dA_some ⟨rfl, ?_⟩
      show Int32.toInt (-1) = _
      rw [wA_r hj, if_neg (by omega)]; exact dm
  · unfold zX10_orderValue zX10_orderValue_65
    rw [if_pos rfl]
    have d6 : Int32.toInt 6 = 6 := by decide
    have dm : Int32.toInt (-1) = -1 := by decide
    have tk : Int32.toInt (6 + k : Int32) = 6 + (j : Int) := ti_add d6 hk (by omega) (by omega)
    have nk : Int32.toNatClampNeg (6 + k : Int32) = 6 + j := by have z := cl_eq (i := (6 + k : Int32)) (by omega); omega
    rw [nk]
    refine dA_B (m_place q' k (by omega)) (fun r q3 z => ?_)
    obtain ⟨z1, z2⟩ := z
    replace z1 : q3 = q' := z1
    replace z2 : (r = 1 ∧ 0 ≤ Int32.toInt k ∧ Int32.toInt k < Int32.toInt (q'.1 2 29)) ∨ (r = 0 ∧ ¬ (0 ≤ Int32.toInt k ∧ Int32.toInt k < Int32.toInt (q'.1 2 29))) := z2
    rw [z1]
    rcases z2 with ⟨z2, z3⟩ | ⟨z2, z3⟩
    · rw [if_neg (by rw [z2]; decide)]
      refine dA_G (fun _ => dA_L (fun v e => dA_some ⟨rfl, ?_⟩))
      show Int32.toInt v = _
      rw [wA_h hj, if_pos (by omega), e, f 2 _ (by omega)]; exact (t2 j hj).2.symm
    · rw [if_pos z2]
      refine dA_some ⟨rfl, ?_⟩
      show Int32.toInt (-1) = _
      rw [wA_h hj, if_neg (by omega)]; exact dm
/-! a clause gone along, there -/
def gfo (q o : dS) : Prop := ∀ j k : Nat, ¬ (j = 0 ∧ (k = 22 ∨ k = 24 ∨ k = 48 ∨ k = 49 ∨ k = 50 ∨ k = 51)) → o.1 j k = q.1 j k
theorem gfo.rf {q : dS} : gfo q q := fun _ _ _ => rfl
theorem gfo.t {q o u : dS} (h : gfo q o) (k : gfo o u) : gfo q u := fun j i hj => (k j i hj).trans (h j i hj)
theorem gfo.f {q o : dS} {k : Nat} {v : Int32} (h : gfo q o) (hk : k = 22 ∨ k = 24 ∨ k = 48 ∨ k = 49 ∨ k = 50 ∨ k = 51) : gfo q (dui o 0 k v) := fun j i hj => by
  rw [dui_x (fun z => hj ⟨z.1, by rw [z.2]; exact hk⟩)]; exact h j i hj
theorem gfo.er {q o : dS} (h : ER q o) : gfo q o := fun j k hj => h.1 j k (fun z => hj ⟨z.1, by omega⟩)
def OB (cs vs A : Nat → Int) (T : Nat) (q : dS) : Prop := T ≤ 400 ∧ (∀ j : Nat, j < T → Int32.toInt (q.1 2 (40 + (2400 + j))) = cs j ∧ Int32.toInt (q.1 2 (2840 + (2400 + j))) = vs j) ∧ cs T = 0 ∧ Int32.toInt (q.1 0 23) = ((2400 + T : Nat) : Int) ∧ Int32.toInt (q.1 0 25) = 1 ∧ (∀ j : Nat, -2147483648 ≤ A j ∧ A j ≤ 2147483647) ∧ ∀ q' : dS, gfo q q' → EKo q' A
theorem OB.m {cs vs A : Nat → Int} {T : Nat} {q o : dS} (h : OB cs vs A T q) (k : gfo q o) : OB cs vs A T o := by
  obtain ⟨h1, h2, h3, h4, h5, h6, h7⟩ := h
  exact ⟨h1, fun j hj => by rw [k 2 _ (by omega), k 2 _ (by omega)]; exact h2 j hj, h3, by rw [k 0 23 (by decide)]; exact h4, by rw [k 0 25 (by decide)]; exact h5, h6, fun q' hq => h7 q' (k.t hq)⟩
theorem OB.ek {cs vs A : Nat → Int} {T : Nat} {q : dS} (h : OB cs vs A T q) : EK 1 cs vs A 2400 T q := by
  obtain ⟨h1, h2, h3, h4, h5, h6, h7⟩ := h
  exact ⟨by omega, h2, h3, h4, h5, h6, fun z => absurd z (by decide), fun _ => h7 q gfo.rf⟩
section X28
variable {cs vs A : Nat → Int} {T : Nat}
theorem al_174 (q : dS) (y0 : Int32) {u : Nat} (hu : Int32.toInt (q.1 0 22) = ((2400 + u : Nat) : Int)) (hT : u ≤ 400) : dAll (zX10_goesAlong_174 q y0) (fun o => o.1 0 51 = y0 ∧ Int32.toInt (o.1 0 22) = ((2400 + (u + 1) : Nat) : Int) ∧ (∀ j k : Nat, ¬ (j = 0 ∧ (k = 22 ∨ k = 51)) → o.1 j k = q.1 j k) ∧ o.2 = q.2) := by
  have d1 : Int32.toInt 1 = 1 := by decide
  unfold zX10_goesAlong_174
  refine dA_G (fun _ => dA_L (fun q2 e2 => dA_L (fun q3 e3 => dA_some ⟨?_, ?_, fun j k hj => ?_, ?_⟩)))
  · rw [e3, dui_n (by decide), e2, dui_e]
  · rw [e3, dui_e, e2, dui_n (by decide), ti_add hu d1 (by omega) (by omega)]; omega
  · rw [e3, dui_x (fun z => hj ⟨z.1, Or.inl z.2⟩), e2, dui_x (fun z => hj ⟨z.1, Or.inr z.2⟩)]
  · rw [e3, e2]; rfl
theorem al_151 (q : dS) (y0 : Int32) {u : Nat} (hu : Int32.toInt (q.1 0 22) = ((2400 + u : Nat) : Int)) (hT : u ≤ 400) : dAll (zX10_goesAlong_151 q y0) (fun o => ((o.1 0 51 = 1 ∧ ¬ y0 = 0 ∧ q.1 0 24 = 0) ∨ (o.1 0 51 = 0 ∧ (y0 = 0 ∨ ¬ q.1 0 24 = 0))) ∧ Int32.toInt (o.1 0 22) = ((2400 + (u + 1) : Nat) : Int) ∧ (∀ j k : Nat, ¬ (j = 0 ∧ (k = 22 ∨ k = 51)) → o.1 j k = q.1 j k) ∧ o.2 = q.2) := by
  unfold zX10_goesAlong_151 zX10_goesAlong_173
  refine dA_G (fun _ => dA_L (fun q2 e2 => ?_))
  have e51 : q2.1 0 51 = y0 := by rw [e2, dui_e]
  have e24 : q2.1 0 24 = q.1 0 24 := by rw [e2, dui_n (by decide)]
  have hu2 : Int32.toInt (q2.1 0 22) = ((2400 + u : Nat) : Int) := by rw [e2, dui_n (by decide)]; exact hu
  have f2 : ∀ j k : Nat, ¬ (j = 0 ∧ (k = 22 ∨ k = 51)) → q2.1 j k = q.1 j k := fun j k hj => by rw [e2, dui_x (fun z => hj ⟨z.1, Or.inr z.2⟩)]
  have x2 : q2.2 = q.2 := by rw [e2]; rfl
  rw [e51, e24]
  refine dA_if (fun c => dA_mono (al_174 q2 0 hu2 hT) (fun o z => ⟨Or.inr ⟨z.1, Or.inl c⟩, z.2.1, fun j k hj => (z.2.2.1 j k hj).trans (f2 j k hj), z.2.2.2.trans x2⟩)) (fun c => dA_if (fun c2 => dA_mono (al_174 q2 1 hu2 hT) (fun o z => ⟨Or.inl ⟨z.1, c, c2⟩, z.2.1, fun j k hj => (z.2.2.1 j k hj).trans (f2 j k hj), z.2.2.2.trans x2⟩)) (fun c2 => dA_mono (al_174 q2 0 hu2 hT) (fun o z => ⟨Or.inr ⟨z.1, Or.inr c2⟩, z.2.1, fun j k hj => (z.2.2.1 j k hj).trans (f2 j k hj), z.2.2.2.trans x2⟩)))
/-- behind sum and times: the test -/
theorem al_124 (q : dS) (x2 : Int32) (hB : OB cs vs A T q) {v w : Nat} {g : VF} (hv : Int32.toInt (q.1 0 22) = ((2400 + v : Nat) : Int)) (hvT : v ≤ T) (ht : (cs v = 4 ∧ Sp 1 cs vs 6 (v + 1) w g ∧ ex6 cs w) ∨ (¬ cs v = 4 ∧ w = v)) : dAll (zX10_goesAlong_124 q x2) (fun o => (¬ x2 = 0 → (o.1 0 51 = 1 ∧ (¬ cs v = 4 ∨ g A = some 1)) ∨ (o.1 0 51 = 0 ∧ ¬ (¬ cs v = 4 ∨ g A = some 1))) ∧ Int32.toInt (o.1 0 22) = ((2400 + (w + 1) : Nat) : Int) ∧ (∀ j k : Nat, ¬ (j = 0 ∧ (k = 22 ∨ k = 24 ∨ k = 51)) → o.1 j k = q.1 j k) ∧ o.2 = q.2) := by
  have D0 : Int32.toInt 0 = 0 := by decide
  have D1 : Int32.toInt 1 = 1 := by decide
  have hT4 := hB.1
  unfold zX10_goesAlong_124 zX10_goesAlong_146
  refine dA_L (fun q1 e1 => ?_)
  have B1 : OB cs vs A T q1 := hB.m (by rw [e1]; exact gfo.rf.f (by decide))
  have K1 := B1.ek
  have E1 : EG q1 2400 T q1 v := ⟨⟨fun _ _ _ => rfl, rfl⟩, hvT, by rw [e1, dui_n (by decide)]; exact hv⟩
  have b1 : q1.1 0 24 = 0 := by rw [e1, dui_e]
  have f1 : ∀ j k : Nat, ¬ (j = 0 ∧ k = 24) → q1.1 j k = q.1 j k := fun j k hj => by rw [e1, dui_x hj]
  have x1 : q1.2 = q.2 := by rw [e1]; rfl
  refine dA_B (e_pass K1 q1 4 E1 (by decide)) (fun r2 q4 z => ?_)
  have z2 : (r2 = 1 ∧ cs v = Int32.toInt 4 ∧ EG q1 2400 T q4 (v + 1) ∧ q4.1 0 24 = q1.1 0 24) ∨ (r2 = 0 ∧ ¬ cs v = Int32.toInt 4 ∧ q4 = q1) := z
  rw [show Int32.toInt 4 = 4 by decide] at z2
  rcases z2 with ⟨z1, z2, z3, z4⟩ | ⟨z1, z2, z3⟩
  · rw [if_neg (by rw [z1]; decide)]
    rcases ht with ⟨t1, t2, t3⟩ | ⟨t1, -⟩
    · refine dA_B (e_test K1 t2 t3 q4 x2 z3) (fun r5 q7 y => ?_)
      obtain ⟨y1, y2, y3⟩ := y
      replace y1 : EG q1 2400 T q7 w := y1
      replace y2 : r5 = 0 ∨ r5 = 1 := y2
      replace y3 : RV A x2 (q4.1 0 24) (q7.1 0 24) g (Int32.toInt r5) := y3
      have f7 : ∀ j k : Nat, ¬ (j = 0 ∧ (k = 22 ∨ k = 24)) → q7.1 j k = q1.1 j k := y1.1.1
      have x7 : q7.2 = q1.2 := y1.1.2
      have hw : w ≤ 400 := by have := y1.2.1; omega
      have fin : ∀ o : dS, (∀ j k : Nat, ¬ (j = 0 ∧ (k = 22 ∨ k = 51)) → o.1 j k = q7.1 j k) → ∀ j k : Nat, ¬ (j = 0 ∧ (k = 22 ∨ k = 24 ∨ k = 51)) → o.1 j k = q.1 j k := fun o h j k hj => by
        rw [h j k (fun z => hj ⟨z.1, by omega⟩), f7 j k (fun z => hj ⟨z.1, by omega⟩), f1 j k (fun z => hj ⟨z.1, by omega⟩)]
      refine dA_if (fun c => dA_mono (al_151 q7 0 y1.2.2 hw) (fun o k => ⟨fun hx => ?_, k.2.1, fin o k.2.2.1, k.2.2.2.trans (x7.trans x1)⟩)) (fun c => dA_mono (al_151 q7 1 y1.2.2 hw) (fun o k => ⟨fun hx => ?_, k.2.1, fin o k.2.2.1, k.2.2.2.trans (x7.trans x1)⟩))
      · have y4 := y3.2.2 hx (z4.trans b1)
        rcases k.1 with ⟨-, k2, -⟩ | ⟨k1, -⟩
        · exact absurd rfl k2
        · refine Or.inr ⟨k1, fun hh => ?_⟩
          rcases hh with hh | hh
          · exact hh z2
          · rcases y4 with ⟨w1, -⟩ | ⟨w1, -⟩
            · rw [w1, c, D0] at hh
              exact absurd (Option.some.inj hh) (by decide)
            · rw [w1] at hh; cases hh
      · have y4 := y3.2.2 hx (z4.trans b1)
        have r1 : r5 = 1 := by
          rcases y2 with y2 | y2
          · exact absurd y2 c
          · exact y2
        rcases y4 with ⟨w1, w2⟩ | ⟨w1, w2⟩
        · rcases k.1 with ⟨k1, -, -⟩ | ⟨-, k2⟩
          · exact Or.inl ⟨k1, Or.inr (by rw [w1, r1, D1])⟩
          · rcases k2 with k2 | k2
            · exact absurd k2 (by decide)
            · exact absurd w2 k2
        · rcases k.1 with ⟨-, -, k2⟩ | ⟨k1, -⟩
          · exact absurd k2 w2
          · refine Or.inr ⟨k1, fun hh => ?_⟩
            rcases hh with hh | hh
            · exact hh z2
            · rw [w1] at hh; cases hh
    · exact absurd z2 t1
  · rw [if_pos z1, z3]
    rcases ht with ⟨t1, -⟩ | ⟨-, t2⟩
    · exact absurd t1 z2
    · subst t2
      refine dA_mono (al_151 q1 1 E1.2.2 (by omega)) (fun o k => ⟨fun _ => ?_, k.2.1, fun j k' hj => ?_, k.2.2.2.trans x1⟩)
      · rcases k.1 with ⟨k1, -, -⟩ | ⟨-, k2⟩
        · exact Or.inl ⟨k1, Or.inl z2⟩
        · rcases k2 with k2 | k2
          · exact absurd k2 (by decide)
          · exact absurd b1 k2
      · rw [k.2.2.1 j k' (fun z => hj ⟨z.1, by omega⟩), f1 j k' (fun z => hj ⟨z.1, by omega⟩)]
/-- behind the sum: how often, the test -/
theorem al_80 (q : dS) (x2 y0 : Int32) (hB : OB cs vs A T q) {u v w : Nat} {tm : Int} {g : VF} (hu : Int32.toInt (q.1 0 22) = ((2400 + u : Nat) : Int)) (huT : u ≤ T) (hm : (cs u = 26 ∧ cs (u + 1) = 50 ∧ tm = vs (u + 1) ∧ v = u + 2) ∨ (¬ cs u = 26 ∧ tm = 1 ∧ v = u)) (ht : (cs v = 4 ∧ Sp 1 cs vs 6 (v + 1) w g ∧ ex6 cs w) ∨ (¬ cs v = 4 ∧ w = v)) : dAll (zX10_goesAlong_80 q x2 y0) (fun o => o.1 0 50 = y0 ∧ Int32.toInt (o.1 0 48) = tm ∧ (¬ x2 = 0 → (o.1 0 51 = 1 ∧ (¬ cs v = 4 ∨ g A = some 1)) ∨ (o.1 0 51 = 0 ∧ ¬ (¬ cs v = 4 ∨ g A = some 1))) ∧ Int32.toInt (o.1 0 22) = ((2400 + (w + 1) : Nat) : Int) ∧ (∀ j k : Nat, ¬ (j = 0 ∧ (k = 22 ∨ k = 24 ∨ k = 48 ∨ k = 50 ∨ k = 51)) → o.1 j k = q.1 j k) ∧ o.2 = q.2) := by
  have D1 : Int32.toInt 1 = 1 := by decide
  have d28 : Int32.toInt 2840 = 2840 := by decide
  have hT4 := hB.1
  unfold zX10_goesAlong_80
  refine dA_G (fun _ => dA_L (fun q2 e2 => dA_L (fun q3 e3 => ?_)))
  have G3 : gfo q q3 := by rw [e3, e2]; exact (gfo.rf.f (by decide)).f (by decide)
  have B3 := hB.m G3
  have K3 := B3.ek
  have u3 : Int32.toInt (q3.1 0 22) = ((2400 + u : Nat) : Int) := by rw [e3, dui_n (by decide), e2, dui_n (by decide)]; exact hu
  have E3 : EG q3 2400 T q3 u := ⟨⟨fun _ _ _ => rfl, rfl⟩, huT, u3⟩
  have v50 : q3.1 0 50 = y0 := by rw [e3, dui_n (by decide), e2, dui_e]
  have v48 : q3.1 0 48 = 1 := by rw [e3, dui_e]
  have f3 : ∀ j k : Nat, ¬ (j = 0 ∧ (k = 48 ∨ k = 50)) → q3.1 j k = q.1 j k := fun j k hj => by rw [e3, dui_x (fun z => hj ⟨z.1, Or.inl z.2⟩), e2, dui_x (fun z => hj ⟨z.1, Or.inr z.2⟩)]
  have x3 : q3.2 = q.2 := by rw [e3, e2]; rfl
  clear e2 e3
  refine dA_B (e_pass K3 q3 26 E3 (by decide)) (fun r4 q6 z => ?_)
  have z2 : (r4 = 1 ∧ cs u = Int32.toInt 26 ∧ EG q3 2400 T q6 (u + 1) ∧ q6.1 0 24 = q3.1 0 24) ∨ (r4 = 0 ∧ ¬ cs u = Int32.toInt 26 ∧ q6 = q3) := z
  rw [show Int32.toInt 26 = 26 by decide] at z2
  rcases z2 with ⟨z1, z2, z3, z4⟩ | ⟨z1, z2, z3⟩
  · rw [if_neg (by rw [z1]; decide)]
    rcases hm with ⟨m1, m2, m3, m4⟩ | ⟨m1, -⟩
    · have hu1 := e_lt K3 z3.2.1 (by omega : ¬ cs (u + 1) = 0)
      have ta : Int32.toInt (2840 + (q6.1 0 22) : Int32) = ((2840 + (2400 + (u + 1)) : Nat) : Int) := by rw [ti_add d28 z3.2.2 (by omega) (by omega)]; omega
      have na : Int32.toNatClampNeg (2840 + (q6.1 0 22) : Int32) = 2840 + (2400 + (u + 1)) := by have z := cl_eq (i := (2840 + (q6.1 0 22) : Int32)) (by omega); omega
      rw [na]
      refine dA_G (fun _ => dA_L (fun v8 e8 => dA_L (fun q9 e9 => dA_L (fun q10 e10 => ?_))))
      have f6 : ∀ j k : Nat, ¬ (j = 0 ∧ (k = 22 ∨ k = 24)) → q6.1 j k = q3.1 j k := z3.1.1
      have ev : Int32.toInt v8 = tm := by rw [e8, f6 2 _ (by omega), m3]; exact (B3.2.1 (u + 1) hu1).2
      have G10 : gfo q3 q10 := by rw [e10, e9]; exact ((gfo.er z3.1).f (by decide)).f (by decide)
      have u10 : Int32.toInt (q10.1 0 22) = ((2400 + v : Nat) : Int) := by
        rw [e10, dui_e, e9, dui_n (by decide), ti_add z3.2.2 D1 (by omega) (by omega)]; omega
      have f10 : ∀ j k : Nat, ¬ (j = 0 ∧ (k = 22 ∨ k = 24 ∨ k = 48)) → q10.1 j k = q3.1 j k := fun j k hj => by rw [e10, dui_x (fun z => hj ⟨z.1, by omega⟩), e9, dui_x (fun z => hj ⟨z.1, by omega⟩), f6 j k (fun z => hj ⟨z.1, by omega⟩)]
      have v48' : q10.1 0 48 = v8 := by rw [e10, dui_n (by decide), e9, dui_e]
      have x10 : q10.2 = q3.2 := by rw [e10, e9]; exact z3.1.2
      refine dA_mono (al_124 q10 x2 (B3.m G10) u10 (by omega) ht) (fun o k => ⟨?_, ?_, k.1, k.2.1, fun j k' hj => ?_, k.2.2.2.trans (x10.trans x3)⟩)
      · rw [k.2.2.1 0 50 (by decide), f10 0 50 (by decide)]; exact v50
      · rw [k.2.2.1 0 48 (by decide), v48']; exact ev
      · rw [k.2.2.1 j k' (fun z => hj ⟨z.1, by omega⟩), f10 j k' (fun z => hj ⟨z.1, by omega⟩), f3 j k' (fun z => hj ⟨z.1, by omega⟩)]
    · exact absurd z2 m1
  · rw [if_pos z1, z3]
    rcases hm with ⟨m1, -⟩ | ⟨-, m2, m3⟩
    · exact absurd m1 z2
    · subst m3
      refine dA_mono (al_124 q3 x2 B3 u3 huT ht) (fun o k => ⟨?_, ?_, k.1, k.2.1, fun j k' hj => ?_, k.2.2.2.trans x3⟩)
      · rw [k.2.2.1 0 50 (by decide)]; exact v50
      · rw [k.2.2.1 0 48 (by decide), v48, m2]; exact D1
      · rw [k.2.2.1 j k' (fun z => hj ⟨z.1, by omega⟩), f3 j k' (fun z => hj ⟨z.1, by omega⟩)]
/-- a whole clause -/
theorem m_along (q : dS) (p1 p2 : Int32) {t u v w : Nat} {kd tm : Int} {f g : VF} {S : Option Int} (hT4 : T ≤ 400) (htk : ∀ j : Nat, j < T → Int32.toInt (q.1 2 (40 + (2400 + j))) = cs j ∧ Int32.toInt (q.1 2 (2840 + (2400 + j))) = vs j) (hcT : cs T = 0) (hA : ∀ j : Nat, -2147483648 ≤ A j ∧ A j ≤ 2147483647) (hEK : ∀ q' : dS, (∀ j k : Nat, ¬ (j = 0 ∧ ((22 ≤ k ∧ k ≤ 25) ∨ (48 ≤ k ∧ k ≤ 51))) → q'.1 j k = q.1 j k) → EKo q' A) (hp1 : Int32.toInt p1 = ((2400 + T : Nat) : Int)) (h47 : Int32.toInt (q.1 0 47) = ((2400 + t : Nat) : Int)) (htT : t ≤ T)
    (hk : 0 ≤ kd ∧ kd < 4 ∧ cs t = 22 + kd) (hs : (¬ kd = 3 ∧ Sp 1 cs vs 2 (t + 1) u f ∧ ex2 cs u ∧ S = f A) ∨ (kd = 3 ∧ u = t + 1 ∧ S = some 0)) (hm : (cs u = 26 ∧ cs (u + 1) = 50 ∧ tm = vs (u + 1) ∧ v = u + 2) ∨ (¬ cs u = 26 ∧ tm = 1 ∧ v = u)) (ht : (cs v = 4 ∧ Sp 1 cs vs 6 (v + 1) w g ∧ ex6 cs w) ∨ (¬ cs v = 4 ∧ w = v)) : dAll (zX10_goesAlong q p1 p2) (fun o => Int32.toInt (o.1 0 49) = 22 + kd ∧ Int32.toInt (o.1 0 48) = tm ∧ (¬ p2 = 0 → ((o.1 0 51 = 1 ∧ (¬ cs v = 4 ∨ g A = some 1)) ∨ (o.1 0 51 = 0 ∧ ¬ (¬ cs v = 4 ∨ g A = some 1))) ∧ ((o.1 0 50 = 1 ∧ S = some (Int64.toInt (o.2 0 52))) ∨ (o.1 0 50 = 0 ∧ S = none))) ∧ Int32.toInt (o.1 0 22) = ((2400 + (w + 1) : Nat) : Int) ∧ ∀ j k : Nat, ¬ (j = 0 ∧ ((22 ≤ k ∧ k ≤ 25) ∨ (48 ≤ k ∧ k ≤ 51))) → o.1 j k = q.1 j k) := by
  have D1 : Int32.toInt 1 = 1 := by decide
  have d25 : Int32.toInt 25 = 25 := by decide
  unfold zX10_goesAlong
  refine dA_L (fun q1 e1 => dA_L (fun q2 e2 => dA_L (fun q3 e3 => ?_)))
  have f3 : ∀ j k : Nat, ¬ (j = 0 ∧ (k = 22 ∨ k = 23 ∨ k = 25)) → q3.1 j k = q.1 j k := fun j k hj => by rw [e3, dui_x (fun z => hj ⟨z.1, by omega⟩), e2, dui_x (fun z => hj ⟨z.1, by omega⟩), e1, dui_x (fun z => hj ⟨z.1, by omega⟩)]
  have v22 : Int32.toInt (q3.1 0 22) = ((2400 + t : Nat) : Int) := by rw [e3, dui_e, e2, dui_n (by decide), e1, dui_n (by decide)]; exact h47
  have v23 : q3.1 0 23 = p1 := by rw [e3, dui_n (by decide), e2, dui_e]
  have v25 : q3.1 0 25 = 1 := by rw [e3, dui_n (by decide), e2, dui_n (by decide), e1, dui_e]
  clear e1 e2 e3
  have B3 : OB cs vs A T q3 := ⟨hT4, fun j hj => by rw [f3 2 _ (by omega), f3 2 _ (by omega)]; exact htk j hj, hcT, by rw [v23]; exact hp1, by rw [v25]; exact D1, hA, fun q' hq => hEK q' (fun j k hj => by rw [hq j k (fun z => hj ⟨z.1, by omega⟩), f3 j k (fun z => hj ⟨z.1, by omega⟩)])⟩
  have K3 := B3.ek
  have E3 : EG q3 2400 T q3 t := ⟨⟨fun _ _ _ => rfl, rfl⟩, htT, v22⟩
  have ht1 := e_lt K3 htT (by omega : ¬ cs t = 0)
  refine dA_B (e_code K3 q3 E3 _ rfl) (fun r4 q6 z => dA_L (fun q7 e7 => dA_L (fun q8 e8 => dA_L (fun q9 e9 => ?_))))
  obtain ⟨z1, z2⟩ := z
  replace z1 : q6 = q3 := z1
  replace z2 : Int32.toInt r4 = cs t := z2
  rw [z1] at e7
  have v49 : q9.1 0 49 = r4 := by rw [e9, dui_n (by decide), e8, dui_n (by decide), e7, dui_e]
  have w22 : Int32.toInt (q9.1 0 22) = ((2400 + (t + 1) : Nat) : Int) := by
    rw [e9, dui_n (by decide), e8, dui_e, e7, dui_n (by decide), ti_add v22 D1 (by omega) (by omega)]; omega
  have w24 : q9.1 0 24 = 0 := by rw [e9, dui_e]
  have G9 : gfo q3 q9 := by rw [e9, e8, e7]; exact ((gfo.rf.f (by decide)).f (by decide)).f (by decide)
  have B9 := B3.m G9
  have K9 := B9.ek
  have E9 : EG q9 2400 T q9 (t + 1) := ⟨⟨fun _ _ _ => rfl, rfl⟩, by omega, w22⟩
  clear e7 e8 e9
  have h64 : ∀ (q12 : dS) (y : Int64), gfo q9 q12 → q12.1 0 49 = r4 → Int32.toInt (q12.1 0 22) = ((2400 + u : Nat) : Int) → u ≤ T → (¬ p2 = 0 → (q12.1 0 24 = 0 ∧ S = some (Int64.toInt y)) ∨ (¬ q12.1 0 24 = 0 ∧ S = none)) → dAll (zX10_goesAlong_64 q12 p2 y) (fun o => Int32.toInt (o.1 0 49) = 22 + kd ∧ Int32.toInt (o.1 0 48) = tm ∧ (¬ p2 = 0 → ((o.1 0 51 = 1 ∧ (¬ cs v = 4 ∨ g A = some 1)) ∨ (o.1 0 51 = 0 ∧ ¬ (¬ cs v = 4 ∨ g A = some 1))) ∧ ((o.1 0 50 = 1 ∧ S = some (Int64.toInt (o.2 0 52))) ∨ (o.1 0 50 = 0 ∧ S = none))) ∧ Int32.toInt (o.1 0 22) = ((2400 + (w + 1) : Nat) : Int) ∧ ∀ j k : Nat, ¬ (j = 0 ∧ ((22 ≤ k ∧ k ≤ 25) ∨ (48 ≤ k ∧ k ≤ 51))) → o.1 j k = q.1 j k) := by
    intro q12 y g12 h49 h22 huT hS
    unfold zX10_goesAlong_64
    refine dA_L (fun q1 e1 => ?_)
    have f1 : q1.1 = q12.1 := by rw [e1]; rfl
    have y1 : q1.2 0 52 = y := by rw [e1]; rfl
    have B1 : OB cs vs A T q1 := (B9.m g12).m (fun j k _ => by rw [f1])
    have key : ∀ b : Int32, (¬ p2 = 0 → (b = 1 ∧ S = some (Int64.toInt y)) ∨ (b = 0 ∧ S = none)) → dAll (zX10_goesAlong_80 q1 p2 b) (fun o => Int32.toInt (o.1 0 49) = 22 + kd ∧ Int32.toInt (o.1 0 48) = tm ∧ (¬ p2 = 0 → ((o.1 0 51 = 1 ∧ (¬ cs v = 4 ∨ g A = some 1)) ∨ (o.1 0 51 = 0 ∧ ¬ (¬ cs v = 4 ∨ g A = some 1))) ∧ ((o.1 0 50 = 1 ∧ S = some (Int64.toInt (o.2 0 52))) ∨ (o.1 0 50 = 0 ∧ S = none))) ∧ Int32.toInt (o.1 0 22) = ((2400 + (w + 1) : Nat) : Int) ∧ ∀ j k : Nat, ¬ (j = 0 ∧ ((22 ≤ k ∧ k ≤ 25) ∨ (48 ≤ k ∧ k ≤ 51))) → o.1 j k = q.1 j k) := by
      intro b hb
      refine dA_mono (al_80 q1 p2 b B1 (by rw [f1]; exact h22) huT hm ht) (fun o k => ⟨?_, k.2.1, fun hx => ⟨k.2.2.1 hx, ?_⟩, k.2.2.2.1, fun j k' hj => ?_⟩)
      · rw [k.2.2.2.2.1 0 49 (by decide), f1, h49, z2]; exact hk.2.2
      · rw [k.1, k.2.2.2.2.2, y1]; exact hb hx
      · rw [k.2.2.2.2.1 j k' (fun z => hj ⟨z.1, by omega⟩), f1, g12 j k' (fun z => hj ⟨z.1, by omega⟩), G9 j k' (fun z => hj ⟨z.1, by omega⟩), f3 j k' (fun z => hj ⟨z.1, by omega⟩)]
    rw [f1]
    refine dA_if (fun c => key 1 (fun hx => ?_)) (fun c => key 0 (fun hx => ?_))
    · rcases hS hx with a | a
      · exact Or.inl ⟨rfl, a.2⟩
      · exact absurd c a.1
    · rcases hS hx with a | a
      · exact absurd a.1 c
      · exact Or.inr ⟨rfl, a.2⟩
  rw [v49]
  rcases hs with ⟨s1, s2, s3, s4⟩ | ⟨s1, s2, s3⟩
  · rw [if_neg (fun c => by rw [c] at z2; omega)]
    refine dA_B (e_sum K9 s2 s3 q9 p2 E9) (fun r10 q12 y => ?_)
    obtain ⟨y1, y2⟩ := y
    replace y1 : EG q9 2400 T q12 u := y1
    replace y2 : RV A p2 (q9.1 0 24) (q12.1 0 24) f (Int64.toInt r10) := y2
    refine h64 q12 r10 (gfo.er y1.1) (by rw [y1.1.1 0 49 (by decide)]; exact v49) y1.2.2 y1.2.1 (fun hx => ?_)
    rcases y2.2.2 hx w24 with a | a
    · exact Or.inl ⟨a.2, s4.trans a.1⟩
    · exact Or.inr ⟨a.2, s4.trans a.1⟩
  · rw [if_pos (i_eq (by rw [z2, d25]; omega))]
    subst s2
    exact h64 q9 0 gfo.rf v49 w22 (by omega) (fun _ => Or.inl ⟨w24, by rw [s3]; rfl⟩)
end X28
