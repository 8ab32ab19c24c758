/-! the whole state alike, answers alike -/
theorem bt2 {r s : Int32} {P : Prop} (h : (r = 1 ∧ P) ∨ (r = 0 ∧ ¬ P)) (k : (s = 1 ∧ P) ∨ (s = 0 ∧ ¬ P)) : (r = 1 ∧ s = 1 ∧ P) ∨ (r = 0 ∧ s = 0 ∧ ¬ P) := by
  rcases h with ⟨h1, h2⟩ | ⟨h1, h2⟩
  · rcases k with ⟨k1, -⟩ | ⟨-, k2⟩
    · exact Or.inl ⟨h1, k1, h2⟩
    · exact absurd h2 k2
  · rcases k with ⟨-, k2⟩ | ⟨k1, -⟩
    · exact absurd k2 h2
    · exact Or.inr ⟨h1, k1, h2⟩
theorem RFw.refA {q : dK} {q2 : dS} (h : RFw q q2) (p : Int32) : d2 (dB (zX9_refuse_s0 q p) (fun r q => some (r, q))) (dB (zX10_refuses q2 p) (fun r q => some (r, q))) (fun o o2 => o.1 = o2.1 ∧ RFw o.2 o2.2) := by
  refine d2_and (d2_lB (c_refuse q p) (fun r17 q19 y => d2_rB (m_refuses q2 p) (fun r11 q13 z => d2_some ?_))) (h.ref p p)
  exact y.1.trans z.1.symm
theorem RFw.accA {q : dK} {q2 : dS} (h : RFw q q2) (p : Int32) : d2 (dB (zX9_accept_s0 q p) (fun r q => some (r, q))) (dB (zX10_good q2 p) (fun r q => some (r, q))) (fun o o2 => o.1 = o2.1 ∧ RFw o.2 o2.2) := by
  refine d2_and (d2_lB (c_accept q p) (fun r17 q19 y => d2_rB (m_good q2 p) (fun r11 q13 z => d2_some ?_))) (h.acc p p)
  exact y.1.trans z.1.symm
theorem RFw.setA {q o : dK} {q2 o2 : dS} (h : RFw q q2) (hs : SRl 1 2 o (o2.1 2)) (kk : ∀ j k : Nat, (j = 9 ∨ (49 ≤ j ∧ j ≤ 62)) → o.1 j k = q.1 j k) (hX : o.2.2 = q.2.2) (mm : ∀ j k : Nat, (j = 3 ∨ j = 4) → o2.1 j k = q2.1 j k) (pc : dK → Int32) (pm : Int32) (hp : pc (cui o 10 2 0) = pm) : d2 (dV (zX0_clear_s10 o) (fun q11 => dB (zX9_accept_s0 q11 (pc q11)) (fun r12 q14 => some (r12, q14)))) (dB (zX10_settled o2 pm) (fun r11 q13 => some (r11, q13))) (fun o o2 => o.1 = o2.1 ∧ RFw o.2 o2.2) := by
  unfold zX0_clear_s10
  refine d2_lV (R := fun u => u = cui o 10 2 0) (dA_L (fun q1 e1 => dA_some e1)) (fun u eu => d2_lB (c_accept u (pc u)) (fun r1 q1 y => d2_rB (m_settled o2 pm) (fun r2 q3 z => d2_some ⟨?_, ?_⟩)))
  · have y1 : r1 = pc u := y.1
    have z0 : r2 = pm := z.1
    show r1 = r2
    rw [y1, z0, eu]; exact hp
  have y2 : q1 = cui u 0 18 0 := y.2
  have z1 : q3.1 0 32 = 0 := z.2.1
  have z2 : ∀ j k : Nat, ¬ (j = 0 ∧ k = 0) → ¬ (j = 0 ∧ k = 32) → q3.1 j k = o2.1 j k := z.2.2.1
  have k1 : ∀ j k : Nat, ¬ j = 0 → ¬ j = 10 → q1.1 j k = o.1 j k := fun j k j0 j10 => by rw [y2, cui_o j0, eu, cui_o j10]
  have e10 : q1.1 10 2 = 0 := by rw [y2, cui_o (by decide), eu, cui_e]
  have x1 : q1.2 = o.2 := by rw [y2, eu]; rfl
  exact h.st (hs.fr (fun j k hj => k1 j k (by omega) (by omega)) (Pfx.eq (by rw [x1])) (fun k => z2 2 k (by omega) (by omega))) (HRl.z e10 z1) (fun j k hj => (k1 j k (by omega) (by omega)).trans (kk j k hj)) ((congrArg Prod.snd x1).trans hX) (fun j k hj => (z2 j k (by omega) (by omega)).trans (mm j k hj))
theorem i_eq {a b : Int32} (h : Int32.toInt a = Int32.toInt b) : a = b := Int32.toInt_inj.mp h
/-! floors put on top -/
theorem c_bitP (p : Int32) : dAll (zX9_isBit p) (fun r => (r = 1 ∧ 0 ≤ Int32.toInt p ∧ Int32.toInt p ≤ 1) ∨ (r = 0 ∧ ¬ (0 ≤ Int32.toInt p ∧ Int32.toInt p ≤ 1))) := by
  have d0 : Int32.toInt 0 = 0 := by decide
  have d1 : Int32.toInt 1 = 1 := by decide
  unfold zX9_isBit zX9_isBit_9 zX9_isBit_14
  exact dA_eq (fun _ c => dA_G (fun _ => dA_some (Or.inl ⟨rfl, by omega, by omega⟩))) (fun _ c => dA_eq (fun _ c2 => dA_G (fun _ => dA_some (Or.inl ⟨rfl, by omega, by omega⟩))) (fun _ c2 => dA_G (fun _ => dA_some (Or.inr ⟨rfl, by omega⟩))))
theorem m_bitP (p : Int32) : dAll (zX10_isBit p) (fun r => (r = 1 ∧ 0 ≤ Int32.toInt p ∧ Int32.toInt p ≤ 1) ∨ (r = 0 ∧ ¬ (0 ≤ Int32.toInt p ∧ Int32.toInt p ≤ 1))) := by
  unfold zX10_isBit
  exact dA_V (m_lies p 0 1 (by decide) (by decide)) (fun r z => dA_G (fun _ => dA_some z))
theorem c_has (q : dK) (p : Int32) {n : Nat} (h2 : Int32.toInt (q.1 2 2) = (n : Int)) (hn : n ≤ 6) : dAll (zX8_has_s2 q p) (fun o => o.2 = q ∧ ((o.1 = 1 ∧ ∃ i : Nat, i < n ∧ q.1 3 i = p) ∨ (o.1 = 0 ∧ ¬ ∃ i : Nat, i < n ∧ q.1 3 i = p))) := by
  have d0 : Int32.toInt 0 = 0 := by decide
  have d1 : Int32.toInt 1 = 1 := by decide
  unfold zX8_has_s2 zX8_has_s2_2
  refine dA_fix (fun (a : dK × Int32 × Int32) => a.1 = q ∧ a.2.1 = p ∧ ∃ i : Nat, i ≤ n ∧ Int32.toInt a.2.2 = (i : Int) ∧ ∀ j : Nat, j < i → ¬ q.1 3 j = p) ?_ dF _ ⟨rfl, rfl, 0, Nat.zero_le _, d0, fun j hj => absurd hj (Nat.not_lt_zero j)⟩
  intro k hk a ha
  obtain ⟨qa, x1, x2⟩ := a
  obtain ⟨a1, a2, i, hi, a3, a4⟩ := ha
  replace a1 : qa = q := a1
  replace a2 : x1 = p := a2
  replace a3 : Int32.toInt x2 = (i : Int) := a3
  subst a1 a2
  show dAll (zX8_has_s2_2b (fun q x1 x2 => k (q, x1, x2)) qa x1 x2) _
  unfold zX8_has_s2_2b
  refine dA_le (fun c => dA_some ⟨rfl, Or.inr ⟨rfl, fun w => ?_⟩⟩) (fun c => dA_G (fun _ => dA_L (fun v e => dA_if (fun cv => dA_some ⟨rfl, Or.inl ⟨rfl, i, by omega, ?_⟩⟩) (fun cv => ?_))))
  · obtain ⟨j, j1, j2⟩ := w
    exact a4 j (by omega) j2
  · have n2 : Int32.toNatClampNeg x2 = i := by have z := cl_eq (i := x2) (by omega); omega
    rw [n2] at e
    rw [← e]; exact cv
  · have n2 : Int32.toNatClampNeg x2 = i := by have z := cl_eq (i := x2) (by omega); omega
    rw [n2] at e
    refine hk (qa, x1, x2 + 1) ⟨rfl, rfl, i + 1, by omega, by show Int32.toInt (x2 + 1) = _; rw [ti_add a3 d1 (by omega) (by omega)]; omega, fun j hj => ?_⟩
    by_cases cj : j = i
    · rw [cj, ← e]; exact cv
    · exact a4 j (by omega)
theorem m_placeOf (q : dS) (p : Int32) {n : Nat} (h2 : Int32.toInt (q.1 2 29) = (n : Int)) (hn : n ≤ 6) : dAll (zX10_placeOf q p) (fun o => o.2 = q ∧ ((¬ o.1 = -1 ∧ ∃ i : Nat, i < n ∧ q.1 2 i = p) ∨ (o.1 = -1 ∧ ¬ ∃ i : Nat, i < n ∧ q.1 2 i = p))) := by
  have d0 : Int32.toInt 0 = 0 := by decide
  have d1 : Int32.toInt 1 = 1 := by decide
  have dm : Int32.toInt (-1) = -1 := by decide
  unfold zX10_placeOf zX10_placeOf_4
  refine dA_fix (fun (a : dS × Int32 × Int32 × Int32) => a.1 = q ∧ a.2.1 = p ∧ ∃ i : Nat, i ≤ n ∧ Int32.toInt a.2.2.2 = (i : Int) ∧ ((¬ a.2.2.1 = -1 ∧ ∃ j : Nat, j < i ∧ q.1 2 j = p) ∨ (a.2.2.1 = -1 ∧ ∀ j : Nat, j < i → ¬ q.1 2 j = p))) ?_ dF _ ⟨rfl, rfl, 0, Nat.zero_le _, d0, Or.inr ⟨rfl, fun j hj => absurd hj (Nat.not_lt_zero j)⟩⟩
  intro k hk a ha
  obtain ⟨qa, x1, x2, x3⟩ := a
  obtain ⟨a1, a2, i, hi, a3, a4⟩ := ha
  replace a1 : qa = q := a1
  replace a2 : x1 = p := a2
  replace a3 : Int32.toInt x3 = (i : Int) := a3
  replace a4 : (¬ x2 = -1 ∧ ∃ j : Nat, j < i ∧ q.1 2 j = p) ∨ (x2 = -1 ∧ ∀ j : Nat, j < i → ¬ q.1 2 j = p) := a4
  subst a1 a2
  show dAll (zX10_placeOf_4b (fun q x1 x2 x3 => k (q, x1, x2, x3)) qa x1 x2 x3) _
  unfold zX10_placeOf_4b zX10_placeOf_29 zX10_size
  show dAll (if (qa.1 2 29) ≤ x3 then some (x2, qa) else _) _
  refine dA_le (fun c => dA_some ⟨rfl, ?_⟩) (fun c => dA_G (fun _ => dA_L (fun v e => ?_)))
  · rcases a4 with ⟨b1, j, b2, b3⟩ | ⟨b1, b2⟩
    · exact Or.inl ⟨b1, j, by omega, b3⟩
    · exact Or.inr ⟨b1, fun w => by obtain ⟨j, j1, j2⟩ := w; exact b2 j (by omega) j2⟩
  · have t3 : Int32.toInt (0 + x3 : Int32) = (i : Int) := by rw [ti_add d0 a3 (by omega) (by omega)]; omega
    have n3 : Int32.toNatClampNeg (0 + x3 : Int32) = i := by have z := cl_eq (i := (0 + x3 : Int32)) (by omega); omega
    rw [n3] at e
    have t4 : Int32.toInt (x3 + 1 : Int32) = ((i + 1 : Nat) : Int) := by rw [ti_add a3 d1 (by omega) (by omega)]; omega
    refine dA_if (fun cv => hk (qa, x1, x3, x3 + 1) ⟨rfl, rfl, i + 1, by omega, t4, Or.inl ⟨fun w => ?_, i, by omega, by rw [← e]; exact cv⟩⟩) (fun cv => hk (qa, x1, x2, x3 + 1) ⟨rfl, rfl, i + 1, by omega, t4, ?_⟩)
    · replace w : x3 = -1 := w
      rw [w] at a3; omega
    · rcases a4 with ⟨b1, j, b2, b3⟩ | ⟨b1, b2⟩
      · exact Or.inl ⟨b1, j, by omega, b3⟩
      · refine Or.inr ⟨b1, fun j hj => ?_⟩
        by_cases cj : j = i
        · rw [cj, ← e]; exact cv
        · exact b2 j (by omega)
def ADc (q o : dK) (n : Nat) (p1 p2 : Int32) : Prop := Int32.toInt (o.1 2 2) = (n : Int) + 1 ∧ (∀ k : Nat, o.1 3 k = if k = n then p1 else q.1 3 k) ∧ (∀ k : Nat, o.1 4 k = if k = n then p2 else q.1 4 k) ∧ (∀ j k : Nat, ¬ j = 3 → ¬ j = 4 → ¬ (j = 2 ∧ k = 2) → o.1 j k = q.1 j k) ∧ o.2 = q.2
def ADm (q o : dS) (n : Nat) (p1 p2 : Int32) : Prop := Int32.toInt (o.1 2 29) = (n : Int) + 1 ∧ (∀ k : Nat, ¬ k = 29 → o.1 2 k = if k = 6 + n then p2 else if k = n then p1 else q.1 2 k) ∧ (∀ j k : Nat, ¬ j = 2 → o.1 j k = q.1 j k) ∧ o.2 = q.2
theorem c_add (q : dK) (p1 p2 : Int32) {n : Nat} (h2 : Int32.toInt (q.1 2 2) = (n : Int)) : dAll (zX8_add_s2 q p1 p2) (fun o => (o.1 = 1 ∧ n < 6 ∧ ADc q o.2 n p1 p2) ∨ (o.1 = 0 ∧ ¬ n < 6 ∧ o.2 = q)) := by
  have d1 : Int32.toInt 1 = 1 := by decide
  have d6 : Int32.toInt 6 = 6 := by decide
  unfold zX8_add_s2
  have n2 : Int32.toNatClampNeg (q.1 2 2) = n := by have z := cl_eq (i := q.1 2 2) (by omega); omega
  refine dA_lt (fun c => dA_G (fun _ => dA_L (fun q2 e2 => dA_G (fun _ => dA_L (fun q4 e4 => dA_L (fun q5 e5 => dA_some (Or.inl ⟨rfl, by omega, ?_, fun k => ?_, fun k => ?_, fun j k j3 j4 j2 => ?_, ?_⟩))))))) (fun c => dA_some (Or.inr ⟨rfl, by omega, rfl⟩))
  · rw [e5, cui_e, e4, cui_o (by decide), e2, cui_o (by decide), ti_add h2 d1 (by omega) (by omega)]
  · show q5.1 3 k = _
    rw [e5, cui_o (by decide), e4, cui_o (by decide), e2, cui_s, n2]; rfl
  · have e22 : q2.1 2 2 = q.1 2 2 := by rw [e2, cui_o (by decide)]
    show q5.1 4 k = _
    rw [e5, cui_o (by decide), e4, cui_s, e22, n2, e2, cui_o (by decide)]; rfl
  · show q5.1 j k = _
    rw [e5, cui_x j2, e4, cui_o j4, e2, cui_o j3]
  · rw [e5, e4, e2]; rfl
theorem m_adds (q : dS) (p1 p2 : Int32) {n : Nat} (h2 : Int32.toInt (q.1 2 29) = (n : Int)) (hn : n < 6) : dAll (zX10_adds q p1 p2) (fun o => ADm q o n p1 p2) := by
  have d0 : Int32.toInt 0 = 0 := by decide
  have d1 : Int32.toInt 1 = 1 := by decide
  have d6 : Int32.toInt 6 = 6 := by decide
  unfold zX10_adds zX10_size
  show dAll (dG (dg (0 + (q.1 2 29) : Int32) 5640) (dL (dui q 2 (Int32.toNatClampNeg (0 + (q.1 2 29) : Int32)) p1) (fun q5 => dB (some (q5.1 2 29, q5)) (fun r6 q8 => dG (dg (6 + r6 : Int32) 5640) (dL (dui q8 2 (Int32.toNatClampNeg (6 + r6 : Int32)) p2) (fun q10 => dL (dui q10 2 29 ((q10.1 2 29) + 1 : Int32)) (fun q11 => some q11))))))) _
  have n0 : Int32.toNatClampNeg (0 + (q.1 2 29) : Int32) = n := by
    have t : Int32.toInt (0 + (q.1 2 29) : Int32) = (n : Int) := by rw [ti_add d0 h2 (by omega) (by omega)]; omega
    have z := cl_eq (i := (0 + (q.1 2 29) : Int32)) (by omega)
    omega
  rw [n0]
  refine dA_G (fun _ => dA_L (fun q5 e5 => ?_))
  have e29 : q5.1 2 29 = q.1 2 29 := by rw [e5, dui_n (by omega)]
  have n6 : Int32.toNatClampNeg (6 + (q5.1 2 29) : Int32) = 6 + n := by
    have t : Int32.toInt (6 + (q5.1 2 29) : Int32) = 6 + (n : Int) := by rw [e29]; exact ti_add d6 h2 (by omega) (by omega)
    have z := cl_eq (i := (6 + (q5.1 2 29) : Int32)) (by omega)
    omega
  show dAll (dG (dg (6 + (q5.1 2 29) : Int32) 5640) (dL (dui q5 2 (Int32.toNatClampNeg (6 + (q5.1 2 29) : Int32)) p2) (fun q10 => dL (dui q10 2 29 ((q10.1 2 29) + 1 : Int32)) (fun q11 => some q11)))) _
  rw [n6]
  refine dA_G (fun _ => dA_L (fun q10 e10 => dA_L (fun q11 e11 => dA_some ⟨?_, fun k hk => ?_, fun j k hj => ?_, ?_⟩)))
  · rw [e11, dui_e, e10, dui_n (by omega), e29, ti_add h2 d1 (by omega) (by omega)]
  · rw [e11, dui_n hk, e10]
    by_cases c6 : k = 6 + n
    · rw [c6, dui_e, if_pos rfl]
    · rw [dui_n c6, if_neg c6, e5]
      by_cases cn : k = n
      · rw [cn, dui_e, if_pos rfl]
      · rw [dui_n cn, if_neg cn]
  · rw [e11, dui_o hj, e10, dui_o hj, e5, dui_o hj]
  · rw [e11, e10, e5]; rfl
/-- on top, here and there -/
theorem SRl.ad {q o : dK} {q2 o2 : dS} {n : Nat} {p1 p2 : Int32} (hs : SRl 1 2 q (q2.1 2)) (hn : n < 6) (c : ADc q o n p1 p2) (m : ADm q2 o2 n p1 p2) : SRl 1 2 o (o2.1 2) := by
  obtain ⟨c1, c2, c3, c4, c5⟩ := c
  obtain ⟨m1, m2, m3, m4⟩ := m
  have hs0 := hs
  obtain ⟨s0, s1, s2, s3, s4, s5, s6, s7, s8, s9⟩ := hs
  obtain ⟨t1, t2, t3, t4⟩ := s0
  have mr : ∀ k : Nat, 12 ≤ k → ¬ k = 29 → o2.1 2 k = q2.1 2 k := fun k hk h29 => by rw [m2 k h29, if_neg (by omega), if_neg (by omega)]
  refine hs0.g ⟨c1.trans m1.symm, fun i hi => ⟨?_, ?_⟩, ?_, ?_⟩ ?_ ?_ ?_ ?_ (c4 1 8 (by decide) (by decide) (by decide)) ?_ ?_ (fun i hi => ⟨?_, ?_⟩) (fun k => c4 7 k (by decide) (by decide) (by omega)) (Pfx.eq (congrArg Prod.snd c5)) (fun k hk => mr k (by omega) (by omega))
  · rw [c2, m2 i (by omega), if_neg (show ¬ i = 6 + n by omega)]
    by_cases ci : i = n
    · rw [if_pos ci, if_pos ci]
    · rw [if_neg ci, if_neg ci]; exact (t2 i hi).1
  · rw [c3, m2 (6 + i) (by omega)]
    by_cases ci : i = n
    · rw [if_pos ci, if_pos (by omega)]
    · rw [if_neg ci, if_neg (by omega), if_neg (by omega)]; exact (t2 i hi).2
  · rw [c4 2 3 (by decide) (by decide) (by decide), mr 12 (by decide) (by decide)]; exact t3
  · rw [c4 2 4 (by decide) (by decide) (by decide), mr 13 (by decide) (by decide)]; exact t4
  · rw [c4 1 1 (by decide) (by decide) (by decide), mr 26 (by decide) (by decide)]; exact s1
  · rw [c4 1 2 (by decide) (by decide) (by decide), mr 27 (by decide) (by decide)]; exact s2
  · rw [c4 1 3 (by decide) (by decide) (by decide), mr 28 (by decide) (by decide)]; exact s3
  · rw [c4 1 6 (by decide) (by decide) (by decide), mr 30 (by decide) (by decide)]; exact s4
  · rw [c4 1 9 (by decide) (by decide) (by decide), mr 32 (by decide) (by decide)]; exact s6
  · rw [mr 32 (by decide) (by decide)]; exact s7
  · rw [c4 (1 + 4) i (by omega) (by omega) (by omega), mr _ (by omega) (by omega)]; exact (s8 i hi).1
  · rw [c4 (1 + 5) i (by omega) (by omega) (by omega), mr _ (by omega) (by omega)]; exact (s8 i hi).2
theorem has_iff {q : dK} {q2 : dS} {n : Nat} {p : Int32} (h : TWR 2 q (q2.1 2)) (hn : n ≤ 6) : (∃ i : Nat, i < n ∧ q2.1 2 i = p) ↔ ∃ i : Nat, i < n ∧ q.1 3 i = p := by
  have e : ∀ i : Nat, i < 6 → q.1 3 i = q2.1 2 i := fun i hi => i_eq (h.2.1 i hi).1
  constructor
  · intro w
    obtain ⟨i, i1, i2⟩ := w
    exact ⟨i, i1, by rw [e i (by omega)]; exact i2⟩
  · intro w
    obtain ⟨i, i1, i2⟩ := w
    exact ⟨i, i1, by rw [← e i (by omega)]; exact i2⟩
theorem sf_floor {q : dK} {q2 : dS} (hT : TC q) (h : RFw q q2) (p1 p2 : Int32) : d2 (zX9_floor_s0 q p1 p2) (zX10_floor q2 p1 p2) (fun o o2 => o.1 = o2.1 ∧ RFw o.2 o2.2) := by
  have d1 : Int32.toInt 1 = 1 := by decide
  have d6 : Int32.toInt 6 = 6 := by decide
  have f2 := rg_2_2 hT
  have hs := h.1
  have t1 : Int32.toInt (q.1 2 2) = Int32.toInt (q2.1 2 29) := hs.1.1
  obtain ⟨n, hn⟩ : ∃ n : Nat, Int32.toInt (q.1 2 2) = (n : Int) := ⟨(Int32.toInt (q.1 2 2)).toNat, by omega⟩
  have hn6 : n ≤ 6 := by omega
  have hm : Int32.toInt (q2.1 2 29) = (n : Int) := t1.symm.trans hn
  unfold zX9_floor_s0 zX10_floor zX9_floor_s0_14 zX10_floor_14
  refine d2_lV (c_rank p1) (fun r1 z1 => d2_rV (m_rank p1) (fun r2 z2 => ?_))
  rcases bt2 z1 z2 with ⟨e1, e2, hr⟩ | ⟨e1, e2, -⟩
  · subst e1 e2
    rw [if_neg (by decide), if_neg (by decide)]
    refine d2_lV (c_bitP p2) (fun r3 z3 => d2_rV (m_bitP p2) (fun r4 z4 => ?_))
    rcases bt2 z3 z4 with ⟨e3, e4, hb⟩ | ⟨e3, e4, -⟩
    · subst e3 e4
      rw [if_neg (by decide), if_neg (by decide)]
      refine d2_lB (c_has q p1 hn hn6) (fun r5 q7 z5 => d2_rB (m_placeOf q2 p1 hm hn6) (fun r6 q8 z6 => ?_))
      obtain ⟨z5, y5⟩ := z5
      obtain ⟨z6, y6⟩ := z6
      replace z5 : q7 = q := z5
      replace z6 : q8 = q2 := z6
      replace y5 : (r5 = 1 ∧ ∃ i : Nat, i < n ∧ q.1 3 i = p1) ∨ (r5 = 0 ∧ ¬ ∃ i : Nat, i < n ∧ q.1 3 i = p1) := y5
      replace y6 : (¬ r6 = -1 ∧ ∃ i : Nat, i < n ∧ q2.1 2 i = p1) ∨ (r6 = -1 ∧ ¬ ∃ i : Nat, i < n ∧ q2.1 2 i = p1) := y6
      subst z5 z6
      have hi := has_iff (n := n) (p := p1) hs.1 hn6
      rcases y5 with ⟨y5, w5⟩ | ⟨y5, w5⟩
      · rcases y6 with ⟨y6, -⟩ | ⟨-, w6⟩
        · rw [if_neg (by rw [y5]; decide), if_neg y6]
          exact h.refA (-3)
        · exact absurd (hi.mpr w5) w6
      · rcases y6 with ⟨-, w6⟩ | ⟨y6, -⟩
        · exact absurd (hi.mp w6) w5
        · rw [if_pos y5, if_pos y6]
          unfold zX10_size
          show d2 _ (if (q8.1 2 29) = 6 then _ else _) _
          refine d2_lB (c_add q7 p1 p2 hn) (fun r8 q10 z8 => ?_)
          rcases z8 with ⟨e8, h6, hA⟩ | ⟨e8, h6, e10⟩
          · replace e8 : r8 = 1 := e8
            replace hA : ADc q7 q10 n p1 p2 := hA
            rw [if_neg (by rw [e8]; decide)]
            refine d2_rif (fun c => by rw [c] at hm; omega) (fun _ => d2_rV (m_adds q8 p1 p2 hm h6) (fun o2 hB => ?_))
            show d2 _ (dB (zX10_settled o2 ((o2.1 2 29) - 1 : Int32)) (fun r17 q19 => some (r17, q19))) _
            refine h.setA (hs.ad h6 hA hB) (fun j k hj => hA.2.2.2.1 j k (by omega) (by omega) (by omega)) (congrArg Prod.snd hA.2.2.2.2) (fun j k hj => hB.2.2.1 j k (by omega)) (fun u => (u.1 2 2) - 1) ((o2.1 2 29) - 1 : Int32) ?_
            show ((cui q10 10 2 0).1 2 2) - 1 = _
            rw [cui_o (by decide), i_eq (hA.1.trans hB.1.symm)]
          · replace e8 : r8 = 0 := e8
            replace e10 : q10 = q7 := e10
            subst e10
            rw [if_pos e8]
            refine d2_rif (fun _ => h.refA (-5)) (fun c => absurd (i_eq (by omega)) c)
    · rw [if_pos e3, if_pos e4]
      exact h.refA (-1)
  · rw [if_pos e1, if_pos e2]
    exact h.refA (-1)
/-! terms -/
def mtI (p : Int32) : Int := if p = 0 then 999 else if p = 1 then 10 else if p = 2 then 9 else if p = 3 then 1 else -1
theorem c_most (p : Int32) : dAll (zX9_mostOfTerm p) (fun r => Int32.toInt r = mtI p) := by
  unfold zX9_mostOfTerm mtI
  by_cases c0 : p = 0
  · rw [if_pos c0, if_pos c0]; exact dA_some (by decide)
  rw [if_neg c0, if_neg c0]
  by_cases c1 : p = 1
  · rw [if_pos c1, if_pos c1]; exact dA_some (by decide)
  rw [if_neg c1, if_neg c1]
  by_cases c2 : p = 2
  · rw [if_pos c2, if_pos c2]; exact dA_some (by decide)
  rw [if_neg c2, if_neg c2]
  by_cases c3 : p = 3
  · rw [if_pos c3, if_pos c3]; exact dA_some (by decide)
  rw [if_neg c3, if_neg c3]; exact dA_some (by decide)
theorem m_isTerm (p v : Int32) : dAll (zX10_isTerm p v) (fun r => (r = 1 ∧ 0 ≤ Int32.toInt v ∧ Int32.toInt v ≤ mtI p) ∨ (r = 0 ∧ ¬ (0 ≤ Int32.toInt v ∧ Int32.toInt v ≤ mtI p))) := by
  have hl : ∀ (b : Int32) (B : Int), Int32.toInt b = B → dAll (dV (zX10_lies v 0 b) (fun r2 => dG (dbl r2) (some r2))) (fun r => (r = 1 ∧ 0 ≤ Int32.toInt v ∧ Int32.toInt v ≤ B) ∨ (r = 0 ∧ ¬ (0 ≤ Int32.toInt v ∧ Int32.toInt v ≤ B))) := fun b B hb => dA_V (m_lies v 0 b (by decide) hb) (fun r z => dA_G (fun _ => dA_some z))
  unfold zX10_isTerm mtI
  by_cases c0 : p = 0
  · rw [if_pos c0, if_pos c0]; exact hl 999 999 (by decide)
  rw [if_neg c0, if_neg c0]
  by_cases c1 : p = 1
  · rw [if_pos c1, if_pos c1]; exact hl 10 10 (by decide)
  rw [if_neg c1, if_neg c1]
  by_cases c2 : p = 2
  · rw [if_pos c2, if_pos c2]; exact hl 9 9 (by decide)
  rw [if_neg c2, if_neg c2]
  by_cases c3 : p = 3
  · rw [if_pos c3, if_pos c3]; exact dA_V (m_bitP v) (fun r z => dA_G (fun _ => dA_some z))
  rw [if_neg c3, if_neg c3]; exact dA_some (Or.inr ⟨rfl, by omega⟩)
theorem SRl.tm {q o : dK} {q2 o2 : dS} {v : Int32} {j k i : Nat} (hs : SRl 1 2 q (q2.1 2)) (hv : (j = 2 ∧ k = 4 ∧ i = 13) ∨ (j = 1 ∧ k = 1 ∧ i = 26) ∨ (j = 1 ∧ k = 2 ∧ i = 27) ∨ (j = 1 ∧ k = 3 ∧ i = 28)) (e : o = cui q j k v) (e2 : o2 = dui q2 2 i v) : SRl 1 2 o (o2.1 2) := by
  have hs0 := hs
  obtain ⟨s0, s1, s2, s3, s4, s5, s6, s7, s8, s9⟩ := hs
  obtain ⟨t1, t2, t3, t4⟩ := s0
  have ke : o.1 j k = v := by rw [e, cui_e]
  have me : o2.1 2 i = v := by rw [e2, dui_e]
  have kk : ∀ a b : Nat, ¬ (a = j ∧ b = k) → o.1 a b = q.1 a b := fun a b h => by rw [e, cui_x h]
  have mm : ∀ b : Nat, ¬ b = i → o2.1 2 b = q2.1 2 b := fun b h => by rw [e2, dui_n h]
  have kp : ∀ a b c : Nat, ((a = j ∧ b = k) ↔ c = i) → Int32.toInt (q.1 a b) = Int32.toInt (q2.1 2 c) → Int32.toInt (o.1 a b) = Int32.toInt (o2.1 2 c) := by
    intro a b c hc h
    by_cases cc : c = i
    · obtain ⟨x1, x2⟩ := hc.mpr cc
      rw [x1, x2, cc, ke, me]
    · rw [kk a b (fun z => cc (hc.mp z)), mm c cc]; exact h
  refine hs0.g ⟨kp 2 2 29 (by omega) t1, fun x hx => ⟨kp (2 + 1) x x (by omega) (t2 x hx).1, kp (2 + 2) x (6 + x) (by omega) (t2 x hx).2⟩, kp 2 3 12 (by omega) t3, kp 2 4 13 (by omega) t4⟩ (kp 1 1 26 (by omega) s1) (kp 1 2 27 (by omega) s2) (kp 1 3 28 (by omega) s3) (kp 1 6 30 (by omega) s4) (kk 1 8 (by omega)) (kp 1 9 32 (by omega) s6) (by rw [mm 32 (by omega)]; exact s7) (fun x hx => ⟨kp (1 + 4) x _ (by omega) (s8 x hx).1, kp (1 + 5) x _ (by omega) (s8 x hx).2⟩) (fun b => kk 7 b (by omega)) (Pfx.eq (by rw [e]; rfl)) (fun b hb => mm b (by omega))
theorem sf_terms {q : dK} {q2 : dS} (h : RFw q q2) (p1 p2 : Int32) : d2 (zX9_terms_s0 q p1 p2) (zX10_terms q2 p1 p2) (fun o o2 => o.1 = o2.1 ∧ RFw o.2 o2.2) := by
  have d0 : Int32.toInt 0 = 0 := by decide
  have hs := h.1
  unfold zX9_terms_s0 zX10_terms zX9_terms_s0_12
  refine d2_rV (m_isTerm p1 p2) (fun r z => ?_)
  refine d2_lif (fun c => ?_) (fun c => ?_)
  · have c1 := Int32.lt_iff_toInt_lt.mp c
    have e : r = 0 := by
      rcases z with ⟨-, z, -⟩ | ⟨z, -⟩
      · exfalso; omega
      · exact z
    rw [if_pos e]
    exact h.refA (-1)
  have c1 : ¬ Int32.toInt p2 < Int32.toInt 0 := fun w => c (Int32.lt_iff_toInt_lt.mpr w)
  refine d2_lV (c_most p1) (fun r1 y => ?_)
  refine d2_lif (fun c2 => ?_) (fun c2 => ?_)
  · have c3 := Int32.le_iff_toInt_le.mp c2
    have e : ¬ r = 0 := by
      rcases z with ⟨z, -⟩ | ⟨-, z⟩
      · rw [z]; decide
      · exfalso; omega
    rw [if_neg e]
    have hp : p1 = 0 ∨ p1 = 1 ∨ p1 = 2 ∨ p1 = 3 := by
      by_cases a0 : p1 = 0
      · exact Or.inl a0
      by_cases a1 : p1 = 1
      · exact Or.inr (Or.inl a1)
      by_cases a2 : p1 = 2
      · exact Or.inr (Or.inr (Or.inl a2))
      by_cases a3 : p1 = 3
      · exact Or.inr (Or.inr (Or.inr a3))
      unfold mtI at y
      rw [if_neg a0, if_neg a1, if_neg a2, if_neg a3] at y
      omega
    unfold zX6_term_s1 zX6_setTerm_s1 zX6_setTerm_s1_67 zX10_termAt zX10_termAt_31
    rcases hp with hp | hp | hp | hp <;> subst hp
    · show d2 (dV (dL (cui q 2 4 p2) (fun q2 => some q2)) (fun q8 => dV (zX0_clear_s10 q8) (fun q11 => dB (zX9_accept_s0 q11 (q.1 2 4)) (fun r12 q14 => some (r12, q14))))) (dG (dg 13 5640) (dL (q2.1 2 13) (fun v6 => dG (dg 13 5640) (dL (dui q2 2 13 p2) (fun q10 => dB (zX10_settled q10 v6) (fun r11 q13 => some (r11, q13))))))) _
      refine d2_rG (fun _ => d2_rL (fun v6 e6 => d2_rG (fun _ => d2_rL (fun o2 e2 => ?_))))
      refine d2_lV (R := fun u => u = cui q 2 4 p2) (dA_L (fun q1 e1 => dA_some e1)) (fun o eo => ?_)
      exact h.setA (hs.tm (Or.inl ⟨rfl, rfl, rfl⟩) eo e2) (fun a b hj => by rw [eo, cui_o (by omega)]) (by rw [eo]; rfl) (fun a b hj => by rw [e2, dui_o (by omega)]) (fun _ => q.1 2 4) v6 (by rw [e6]; exact i_eq hs.1.2.2.2)
    · show d2 (dV (dL (cui q 1 1 p2) (fun q2 => some q2)) (fun q8 => dV (zX0_clear_s10 q8) (fun q11 => dB (zX9_accept_s0 q11 (q.1 1 1)) (fun r12 q14 => some (r12, q14))))) (dG (dg 26 5640) (dL (q2.1 2 26) (fun v6 => dG (dg 26 5640) (dL (dui q2 2 26 p2) (fun q10 => dB (zX10_settled q10 v6) (fun r11 q13 => some (r11, q13))))))) _
      refine d2_rG (fun _ => d2_rL (fun v6 e6 => d2_rG (fun _ => d2_rL (fun o2 e2 => ?_))))
      refine d2_lV (R := fun u => u = cui q 1 1 p2) (dA_L (fun q1 e1 => dA_some e1)) (fun o eo => ?_)
      exact h.setA (hs.tm (Or.inr (Or.inl ⟨rfl, rfl, rfl⟩)) eo e2) (fun a b hj => by rw [eo, cui_o (by omega)]) (by rw [eo]; rfl) (fun a b hj => by rw [e2, dui_o (by omega)]) (fun _ => q.1 1 1) v6 (by rw [e6]; exact i_eq hs.2.1)
    · show d2 (dV (dL (cui q 1 2 p2) (fun q2 => some q2)) (fun q8 => dV (zX0_clear_s10 q8) (fun q11 => dB (zX9_accept_s0 q11 (q.1 1 2)) (fun r12 q14 => some (r12, q14))))) (dG (dg 27 5640) (dL (q2.1 2 27) (fun v6 => dG (dg 27 5640) (dL (dui q2 2 27 p2) (fun q10 => dB (zX10_settled q10 v6) (fun r11 q13 => some (r11, q13))))))) _
      refine d2_rG (fun _ => d2_rL (fun v6 e6 => d2_rG (fun _ => d2_rL (fun o2 e2 => ?_))))
      refine d2_lV (R := fun u => u = cui q 1 2 p2) (dA_L (fun q1 e1 => dA_some e1)) (fun o eo => ?_)
      exact h.setA (hs.tm (Or.inr (Or.inr (Or.inl ⟨rfl, rfl, rfl⟩))) eo e2) (fun a b hj => by rw [eo, cui_o (by omega)]) (by rw [eo]; rfl) (fun a b hj => by rw [e2, dui_o (by omega)]) (fun _ => q.1 1 2) v6 (by rw [e6]; exact i_eq hs.2.2.1)
    · show d2 (dV (dL (cui q 1 3 p2) (fun q2 => some q2)) (fun q8 => dV (zX0_clear_s10 q8) (fun q11 => dB (zX9_accept_s0 q11 (q.1 1 3)) (fun r12 q14 => some (r12, q14))))) (dG (dg 28 5640) (dL (q2.1 2 28) (fun v6 => dG (dg 28 5640) (dL (dui q2 2 28 p2) (fun q10 => dB (zX10_settled q10 v6) (fun r11 q13 => some (r11, q13))))))) _
      refine d2_rG (fun _ => d2_rL (fun v6 e6 => d2_rG (fun _ => d2_rL (fun o2 e2 => ?_))))
      refine d2_lV (R := fun u => u = cui q 1 3 p2) (dA_L (fun q1 e1 => dA_some e1)) (fun o eo => ?_)
      exact h.setA (hs.tm (Or.inr (Or.inr (Or.inr ⟨rfl, rfl, rfl⟩))) eo e2) (fun a b hj => by rw [eo, cui_o (by omega)]) (by rw [eo]; rfl) (fun a b hj => by rw [e2, dui_o (by omega)]) (fun _ => q.1 1 3) v6 (by rw [e6]; exact i_eq hs.2.2.2.1)
  · have c3 : ¬ Int32.toInt p2 ≤ Int32.toInt r1 := fun w => c2 (Int32.le_iff_toInt_le.mpr w)
    have e : r = 0 := by
      rcases z with ⟨-, -, z⟩ | ⟨z, -⟩
      · exfalso; omega
      · exact z
    rw [if_pos e]
    exact h.refA (-1)
/-! images -/
theorem c_img (p : Int32) : dAll (zX9_isImage p) (fun r => (r = 1 ∧ 0 ≤ Int32.toInt p ∧ Int32.toInt p ≤ 1) ∨ (r = 0 ∧ ¬ (0 ≤ Int32.toInt p ∧ Int32.toInt p ≤ 1))) := by
  have d0 : Int32.toInt 0 = 0 := by decide
  have d2' : Int32.toInt 2 = 2 := by decide
  unfold zX9_isImage zX9_isImage_13 zX9_isImage_14
  exact dA_lt (fun c => dA_G (fun _ => dA_some (Or.inr ⟨rfl, by omega⟩))) (fun c => dA_le (fun c2 => dA_G (fun _ => dA_some (Or.inr ⟨rfl, by omega⟩))) (fun c2 => dA_G (fun _ => dA_some (Or.inl ⟨rfl, by omega, by omega⟩))))
/-- there: a row goes over into an image -/
theorem m_image (q : dS) (p : Int32) {b : Nat} (hp : Int32.toInt p = (b : Int)) (hb : b < 2) : dAll (zX10_image_17 dF q p 0) (fun o => o.1 = 0 ∧ (∀ i : Nat, o.2.1 3 i = if 5640 * b ≤ i ∧ i < 5640 * b + 5640 then q.1 2 (i - 5640 * b) else q.1 3 i) ∧ (∀ k : Nat, o.2.1 4 k = if k = b then 1 else q.1 4 k) ∧ (∀ j k : Nat, ¬ j = 3 → ¬ j = 4 → ¬ (j = 0 ∧ k = 0) → o.2.1 j k = q.1 j k) ∧ o.2.2 = q.2) := by
  have d0 : Int32.toInt 0 = 0 := by decide
  have d1 : Int32.toInt 1 = 1 := by decide
  have dK5 : Int32.toInt 5640 = 5640 := by decide
  have np : Int32.toNatClampNeg p = b := by have z := cl_eq (i := p) (by omega); omega
  unfold zX10_image_17
  refine dA_fix (fun (a : dS × Int32 × Int32) => a.2.1 = p ∧ ∃ i : Nat, i ≤ 5640 ∧ Int32.toInt a.2.2 = (i : Int) ∧ (∀ x : Nat, a.1.1 3 x = if 5640 * b ≤ x ∧ x < 5640 * b + i then q.1 2 (x - 5640 * b) else q.1 3 x) ∧ (∀ j k : Nat, ¬ j = 3 → a.1.1 j k = q.1 j k) ∧ a.1.2 = q.2) ?_ dF _ ⟨rfl, 0, Nat.zero_le _, d0, fun x => (if_neg (by omega)).symm, fun _ _ _ => rfl, rfl⟩
  intro k17 hk a ha
  obtain ⟨qa, x1, x2⟩ := a
  obtain ⟨a1, i, hi, a2, a3, a4, a5⟩ := ha
  replace a1 : p = x1 := Eq.symm a1
  replace a2 : Int32.toInt x2 = (i : Int) := a2
  replace a3 : ∀ x : Nat, qa.1 3 x = if 5640 * b ≤ x ∧ x < 5640 * b + i then q.1 2 (x - 5640 * b) else q.1 3 x := a3
  replace a4 : ∀ j k : Nat, ¬ j = 3 → qa.1 j k = q.1 j k := a4
  replace a5 : qa.2 = q.2 := a5
  subst a1
  show dAll (zX10_image_17b (fun q x1 x2 => k17 (q, x1, x2)) qa p x2) _
  unfold zX10_image_17b
  rw [np]
  refine dA_le (fun c => ?_) (fun c => ?_)
  · have ei : i = 5640 := by omega
    subst ei
    refine dA_G (fun _ => dA_L (fun q2 e2 => dA_B (m_good q2 0) (fun r3 q5 z => dA_some ⟨z.1, ?_⟩)))
    have z2 : ∀ j k : Nat, ¬ (j = 0 ∧ k = 0) → q5.1 j k = q2.1 j k := z.2.1
    have z3 : q5.2 = q2.2 := z.2.2
    refine ⟨fun x => ?_, fun k => ?_, fun j k j3 j4 j0 => ?_, ?_⟩
    · show q5.1 3 x = _
      rw [z2 3 x (by omega), e2, dui_o (by decide)]; exact a3 x
    · show q5.1 4 k = _
      rw [z2 4 k (by omega), e2]
      by_cases ck : k = b
      · rw [ck, dui_e, if_pos rfl]; decide
      · rw [dui_n ck, if_neg ck]; exact a4 4 k (by decide)
    · show q5.1 j k = _
      rw [z2 j k j0, e2, dui_o j4]; exact a4 j k j3
    · show q5.2 = _
      rw [z3, e2]; exact a5
  · have t2 : Int32.toInt (5640 * p : Int32) = 5640 * (b : Int) := ti_mul dK5 hp (by omega) (by omega)
    have t3 : Int32.toInt ((5640 * p : Int32) + x2) = 5640 * (b : Int) + (i : Int) := ti_add t2 a2 (by omega) (by omega)
    have n2 : Int32.toNatClampNeg x2 = i := by have z := cl_eq (i := x2) (by omega); omega
    have n3 : Int32.toNatClampNeg ((5640 * p : Int32) + x2) = 5640 * b + i := by have z := cl_eq (i := ((5640 * p : Int32) + x2)) (by omega); omega
    rw [n2, n3]
    refine dA_G (fun _ => dA_L (fun v7 e7 => dA_G (fun _ => dA_L (fun q9 e9 => hk (q9, p, x2 + 1) ⟨rfl, i + 1, by omega, by show Int32.toInt (x2 + 1) = _; rw [ti_add a2 d1 (by omega) (by omega)]; omega, fun x => ?_, fun j k hj => ?_, ?_⟩))))
    · show q9.1 3 x = _
      rw [e9]
      by_cases cx : x = 5640 * b + i
      · rw [cx, dui_e, if_pos (by omega), e7, a4 2 i (by decide), show 5640 * b + i - 5640 * b = i by omega]
      · rw [dui_n cx, a3 x]
        by_cases cy : 5640 * b ≤ x ∧ x < 5640 * b + i
        · rw [if_pos cy, if_pos (by omega)]
        · rw [if_neg cy, if_neg (by omega)]
    · show q9.1 j k = _
      rw [e9, dui_o hj]; exact a4 j k hj
    · show q9.2 = _
      rw [e9]; exact a5
/-- there: and back -/
theorem m_back (q : dS) (p : Int32) {b : Nat} (hp : Int32.toInt p = (b : Int)) (hb : b < 2) {x : Option (Int32 × dK)} {P : Int32 × dK → Int32 × dS → Prop} (H : ∀ o : dS, (∀ k : Nat, k < 5640 → o.1 2 k = q.1 3 (5640 * b + k)) → (∀ k : Nat, 5640 ≤ k → o.1 2 k = q.1 2 k) → (∀ j k : Nat, ¬ j = 2 → o.1 j k = q.1 j k) → o.2 = q.2 → d2 x (dB (zX10_settled o 0) (fun r1 q3 => some (r1, q3))) P) : d2 x (zX10_back_33 dF q p 0) P := by
  intro u v eu ev
  have d0 : Int32.toInt 0 = 0 := by decide
  have d1 : Int32.toInt 1 = 1 := by decide
  have dK5 : Int32.toInt 5640 = 5640 := by decide
  have key : dAll (zX10_back_33 dF q p 0) (fun v => P u v) := by
    unfold zX10_back_33
    refine dA_fix (fun (a : dS × Int32 × Int32) => a.2.1 = p ∧ ∃ i : Nat, i ≤ 5640 ∧ Int32.toInt a.2.2 = (i : Int) ∧ (∀ k : Nat, a.1.1 2 k = if k < i then q.1 3 (5640 * b + k) else q.1 2 k) ∧ (∀ j k : Nat, ¬ j = 2 → a.1.1 j k = q.1 j k) ∧ a.1.2 = q.2) ?_ dF _ ⟨rfl, 0, Nat.zero_le _, d0, fun x => (if_neg (by omega)).symm, fun _ _ _ => rfl, rfl⟩
    intro k33 hk a ha
    obtain ⟨qa, x1, x2⟩ := a
    obtain ⟨a1, i, hi, a2, a3, a4, a5⟩ := ha
    replace a1 : p = x1 := Eq.symm a1
    replace a2 : Int32.toInt x2 = (i : Int) := a2
    replace a3 : ∀ k : Nat, qa.1 2 k = if k < i then q.1 3 (5640 * b + k) else q.1 2 k := a3
    replace a4 : ∀ j k : Nat, ¬ j = 2 → qa.1 j k = q.1 j k := a4
    replace a5 : qa.2 = q.2 := a5
    subst a1
    show dAll (zX10_back_33b (fun q x1 x2 => k33 (q, x1, x2)) qa p x2) _
    unfold zX10_back_33b
    refine dA_le (fun c => ?_) (fun c => ?_)
    · have ei : i = 5640 := by omega
      subst ei
      intro v' ev'
      exact H qa (fun k hk => by rw [a3 k, if_pos hk]) (fun k hk => by rw [a3 k, if_neg (by omega)]) a4 a5 u v' eu ev'
    · have t2 : Int32.toInt (5640 * p : Int32) = 5640 * (b : Int) := ti_mul dK5 hp (by omega) (by omega)
      have t3 : Int32.toInt ((5640 * p : Int32) + x2) = 5640 * (b : Int) + (i : Int) := ti_add t2 a2 (by omega) (by omega)
      have n2 : Int32.toNatClampNeg x2 = i := by have z := cl_eq (i := x2) (by omega); omega
      have n3 : Int32.toNatClampNeg ((5640 * p : Int32) + x2) = 5640 * b + i := by have z := cl_eq (i := ((5640 * p : Int32) + x2)) (by omega); omega
      rw [n2, n3]
      refine dA_G (fun _ => dA_L (fun v7 e7 => dA_G (fun _ => dA_L (fun q9 e9 => hk (q9, p, x2 + 1) ⟨rfl, i + 1, by omega, by show Int32.toInt (x2 + 1) = _; rw [ti_add a2 d1 (by omega) (by omega)]; omega, fun k => ?_, fun j k hj => ?_, ?_⟩))))
      · show q9.1 2 k = _
        rw [e9]
        by_cases cx : k = i
        · rw [cx, dui_e, if_pos (by omega), e7, a4 3 _ (by decide)]
        · rw [dui_n cx, a3 k]
          by_cases cy : k < i
          · rw [if_pos cy, if_pos (by omega)]
          · rw [if_neg cy, if_neg (by omega)]
      · show q9.1 j k = _
        rw [e9, dui_o hj]; exact a4 j k hj
      · show q9.2 = _
        rw [e9]; exact a5
  exact key v ev
/-- a row's first 5,640 numbers tell it -/
theorem SRl.lk {s t : Nat} {q : dK} {R S : Nat → Int32} (h : SRl s t q R) (hR : ∀ k : Nat, k < 5640 → S k = R k) : SRl s t q S := by
  obtain ⟨s0, s1, s2, s3, s4, s5, s6, s7, s8, s9⟩ := h
  obtain ⟨t1, t2, t3, t4⟩ := s0
  refine ⟨⟨by rw [hR 29 (by decide)]; exact t1, fun i hi => by rw [hR i (by omega), hR (6 + i) (by omega)]; exact t2 i hi, by rw [hR 12 (by decide)]; exact t3, by rw [hR 13 (by decide)]; exact t4⟩, ?_, ?_, ?_, ?_, ?_, ?_, ?_, fun i hi => ⟨?_, ?_⟩, fun F hF hl => ?_⟩
  · rw [hR 26 (by decide)]; exact s1
  · rw [hR 27 (by decide)]; exact s2
  · rw [hR 28 (by decide)]; exact s3
  · rw [hR 30 (by decide)]; exact s4
  · rw [hR 31 (by decide)]; exact s5
  · rw [hR 32 (by decide)]; exact s6
  · rw [hR 32 (by decide)]; exact s7
  · rw [hR _ (by omega)]; exact (s8 i hi).1
  · rw [hR _ (by omega)]; exact (s8 i hi).2
  · rw [hR 31 (by decide)] at hl
    have z := s9 F hF hl
    exact z.s z.1 rfl (hR _ (by omega)) (fun j hj => ⟨hR _ (by omega), hR _ (by omega)⟩)
theorem sf_image {q : dK} {q2 : dS} (hT : TC q) (h : RFw q q2) (p : Int32) : d2 (zX9_image_s0 q p) (zX10_image q2 p) (fun o o2 => o.1 = o2.1 ∧ RFw o.2 o2.2) := by
  have d0 : Int32.toInt 0 = 0 := by decide
  have d1 : Int32.toInt 1 = 1 := by decide
  have hh := h
  obtain ⟨h1, h2, h3, h4, h5⟩ := hh
  unfold zX9_image_s0 zX10_image
  refine d2_lV (c_img p) (fun r1 z1 => d2_rV (m_lies p 0 1 d0 d1) (fun r2 z2 => ?_))
  rcases bt2 z1 z2 with ⟨e1, e2, hp⟩ | ⟨e1, e2, -⟩
  · subst e1 e2
    rw [if_neg (show ¬ (1 : Int32) = 0 by decide), if_neg (show ¬ (1 : Int32) = 0 by decide)]
    refine d2_lG (fun _ => ?_)
    refine d2_lif (fun c => ?_) (fun c => ?_)
    · have pe : Int32.toInt p = ((0 : Nat) : Int) := by rw [c]; decide
      have np : Int32.toNatClampNeg p = 0 := by have z := cl_eq (i := p) (by omega); omega
      rw [np]
      refine d2_lV (c_copyFrom_s49_s1 q hT) (fun q7 C => d2_lG (fun _ => d2_lL (fun q9 e9 => d2_lB (c_accept q9 0) (fun r10 q12 y => ?_))))
      intro a m ea em
      cases ea
      obtain ⟨m1, m2, m3, m4, m5⟩ := m_image q2 p pe (by decide) m em
      have y1 : r10 = 0 := y.1
      have y2 : q12 = cui q9 0 18 0 := y.2
      refine ⟨y1.trans m1.symm, ?_⟩
      have C0 := C
      obtain ⟨C1, C2, C3, C4, C5⟩ := C
      have kk : ∀ j k : Nat, ¬ (49 ≤ j ∧ j ≤ 55) → ¬ j = 9 → ¬ (j = 0 ∧ k = 18) → q12.1 j k = q.1 j k := fun j k j1 j2 j3 => by rw [y2, cui_x j3, e9, cui_o j2]; exact C4 j k (by omega)
      have kc : ∀ j k : Nat, ¬ j = 9 → ¬ j = 0 → q12.1 j k = q7.1 j k := fun j k j2 j3 => by rw [y2, cui_o j3, e9, cui_o j2]
      have x12 : q12.2 = q7.2 := by rw [y2, e9]; rfl
      have mk : ∀ j k : Nat, ¬ j = 3 → ¬ j = 4 → ¬ j = 0 → m.2.1 j k = q2.1 j k := fun j k j3 j4 j0 => m4 j k j3 j4 (by omega)
      refine ⟨?_, ?_, fun k hk => ?_, fun hf => ?_, fun hf => ?_⟩
      · refine h1.fr (fun j k hj => kk j k (by omega) (by omega) (by omega)) (Pfx.eq (by rw [x12, C5])) (fun k => mk 2 k (by decide) (by decide) (by decide))
      · exact h2.fr (kk 10 2 (by omega) (by omega) (by omega)) (by rw [x12, C5]) (fun k => kk 12 k (by omega) (by omega) (by omega)) (m4 0 32 (by decide) (by decide) (by decide)) (fun k => mk 14 k (by decide) (by decide) (by decide)) (mk 2 29 (by decide) (by decide) (by decide))
      · show Int32.toInt (q12.1 9 k) = Int32.toInt (m.2.1 4 k)
        rw [m3 k, y2, cui_o (by decide), e9]
        by_cases ck : k = 0
        · rw [ck, cui_e, if_pos rfl]; decide
        · rw [cui_n ck, if_neg ck, C4 9 k (by omega)]; exact h3 k hk
      · show SRl 49 50 q12 (fun k => m.2.1 3 k)
        have S7 : SRl 49 (49 + 1) q7 (q2.1 2) := h1.cp C0 (fun _ => rfl)
        have S8 : SRl 49 50 q12 (q2.1 2) := S7.fr (fun j k hj => kc j k (by omega) (by omega)) (Pfx.eq (by rw [x12])) (fun _ => rfl)
        refine S8.lk (fun k hk => ?_)
        show m.2.1 3 (k) = q2.1 2 k
        rw [m2, if_pos (by omega)]
        rfl
      · have hf2 : ¬ q2.1 4 1 = 0 := by
          intro z
          apply hf
          show m.2.1 4 1 = 0
          rw [m3 1, if_neg (by decide)]; exact z
        show SRl 56 57 q12 (fun k => m.2.1 3 (5640 + k))
        have S7 := (h5 hf2).fr (o := q12) (S := fun k => q2.1 3 (5640 + k)) (fun j k hj => kk j k (by omega) (by omega) (by omega)) (Pfx.eq (by rw [x12, C5])) (fun _ => rfl)
        refine S7.lk (fun k hk => ?_)
        show m.2.1 3 (5640 + k) = q2.1 3 (5640 + k)
        rw [m2, if_neg (by omega)]
    · refine d2_lG (fun hd => ?_)
      have c1 : p = 1 := of_decide_eq_true hd
      have pe : Int32.toInt p = ((1 : Nat) : Int) := by rw [c1]; decide
      have np : Int32.toNatClampNeg p = 1 := by have z := cl_eq (i := p) (by omega); omega
      rw [np]
      refine d2_lV (c_copyFrom_s56_s1 q hT) (fun q7 C => d2_lG (fun _ => d2_lL (fun q9 e9 => d2_lB (c_accept q9 0) (fun r10 q12 y => ?_))))
      intro a m ea em
      cases ea
      obtain ⟨m1, m2, m3, m4, m5⟩ := m_image q2 p pe (by decide) m em
      have y1 : r10 = 0 := y.1
      have y2 : q12 = cui q9 0 18 0 := y.2
      refine ⟨y1.trans m1.symm, ?_⟩
      have C0 := C
      obtain ⟨C1, C2, C3, C4, C5⟩ := C
      have kk : ∀ j k : Nat, ¬ (56 ≤ j ∧ j ≤ 62) → ¬ j = 9 → ¬ (j = 0 ∧ k = 18) → q12.1 j k = q.1 j k := fun j k j1 j2 j3 => by rw [y2, cui_x j3, e9, cui_o j2]; exact C4 j k (by omega)
      have kc : ∀ j k : Nat, ¬ j = 9 → ¬ j = 0 → q12.1 j k = q7.1 j k := fun j k j2 j3 => by rw [y2, cui_o j3, e9, cui_o j2]
      have x12 : q12.2 = q7.2 := by rw [y2, e9]; rfl
      have mk : ∀ j k : Nat, ¬ j = 3 → ¬ j = 4 → ¬ j = 0 → m.2.1 j k = q2.1 j k := fun j k j3 j4 j0 => m4 j k j3 j4 (by omega)
      refine ⟨?_, ?_, fun k hk => ?_, fun hf => ?_, fun hf => ?_⟩
      · refine h1.fr (fun j k hj => kk j k (by omega) (by omega) (by omega)) (Pfx.eq (by rw [x12, C5])) (fun k => mk 2 k (by decide) (by decide) (by decide))
      · exact h2.fr (kk 10 2 (by omega) (by omega) (by omega)) (by rw [x12, C5]) (fun k => kk 12 k (by omega) (by omega) (by omega)) (m4 0 32 (by decide) (by decide) (by decide)) (fun k => mk 14 k (by decide) (by decide) (by decide)) (mk 2 29 (by decide) (by decide) (by decide))
      · show Int32.toInt (q12.1 9 k) = Int32.toInt (m.2.1 4 k)
        rw [m3 k, y2, cui_o (by decide), e9]
        by_cases ck : k = 1
        · rw [ck, cui_e, if_pos rfl]; decide
        · rw [cui_n ck, if_neg ck, C4 9 k (by omega)]; exact h3 k hk
      · have hf2 : ¬ q2.1 4 0 = 0 := by
          intro z
          apply hf
          show m.2.1 4 0 = 0
          rw [m3 0, if_neg (by decide)]; exact z
        show SRl 49 50 q12 (fun k => m.2.1 3 k)
        have S7 := (h4 hf2).fr (o := q12) (S := fun k => q2.1 3 (k)) (fun j k hj => kk j k (by omega) (by omega) (by omega)) (Pfx.eq (by rw [x12, C5])) (fun _ => rfl)
        refine S7.lk (fun k hk => ?_)
        show m.2.1 3 (k) = q2.1 3 (k)
        rw [m2, if_neg (by omega)]
      · show SRl 56 57 q12 (fun k => m.2.1 3 (5640 + k))
        have S7 : SRl 56 (56 + 1) q7 (q2.1 2) := h1.cp C0 (fun _ => rfl)
        have S8 : SRl 56 57 q12 (q2.1 2) := S7.fr (fun j k hj => kc j k (by omega) (by omega)) (Pfx.eq (by rw [x12])) (fun _ => rfl)
        refine S8.lk (fun k hk => ?_)
        show m.2.1 3 (5640 + k) = q2.1 2 k
        rw [m2, if_pos (by omega)]
        rw [show 5640 + k - 5640 * 1 = k by omega]
  · rw [if_pos e1, if_pos e2]
    exact h.refA (-1)
theorem sf_back {q : dK} {q2 : dS} (hT : TC q) (h : RFw q q2) (p : Int32) : d2 (zX9_back_s0 q p) (zX10_back q2 p) (fun o o2 => o.1 = o2.1 ∧ RFw o.2 o2.2) := by
  have d0 : Int32.toInt 0 = 0 := by decide
  have d1 : Int32.toInt 1 = 1 := by decide
  have hh := h
  obtain ⟨h1, h2, h3, h4, h5⟩ := hh
  unfold zX9_back_s0 zX10_back
  refine d2_lV (c_img p) (fun r1 z1 => d2_rV (m_lies p 0 1 d0 d1) (fun r2 z2 => ?_))
  rcases bt2 z1 z2 with ⟨e1, e2, hp⟩ | ⟨e1, e2, -⟩
  · subst e1 e2
    rw [if_neg (show ¬ (1 : Int32) = 0 by decide), if_neg (show ¬ (1 : Int32) = 0 by decide)]
    obtain ⟨b, pe⟩ : ∃ b : Nat, Int32.toInt p = (b : Int) := ⟨(Int32.toInt p).toNat, by omega⟩
    have hb : b < 2 := by omega
    have np : Int32.toNatClampNeg p = b := by have z := cl_eq (i := p) (by omega); omega
    rw [np]
    refine d2_lG (fun _ => d2_lL (fun v4 e4 => d2_rG (fun _ => d2_rL (fun w4 g4 => ?_))))
    have ev : v4 = w4 := by rw [e4, g4]; exact i_eq (h3 b hb)
    refine d2_lif (fun c0 => ?_) (fun c0 => ?_)
    · rw [if_pos (ev.symm.trans c0)]
      exact h.refA (-2)
    · have c2 : ¬ w4 = 0 := fun z => c0 (ev.trans z)
      rw [if_neg c2]
      refine d2_lG (fun _ => ?_)
      refine d2_lif (fun c => ?_) (fun c => ?_)
      · have eb : b = 0 := by rw [c] at pe; omega
        subst eb
        refine d2_lV (c_copyFrom_s1_s49 q hT) (fun q7 C => m_back q2 p pe (by decide) (fun o2 g1 g2 g3 g4' => ?_))
        have C0 := C
        obtain ⟨C1, C2, C3, C4, C5⟩ := C
        have S0 : SRl 49 (49 + 1) q (fun k => q2.1 3 k) := h4 (fun z => c2 (g4.trans z))
        have S7 : SRl 1 (1 + 1) q7 (fun k => q2.1 3 k) := S0.cp C0 (fun _ => rfl)
        refine h.setA (S7.lk (fun k hk => ?_)) (fun j k hj => C4 j k (by omega)) (by rw [C5]) (fun j k hj => g3 j k (by omega)) (fun _ => 0) 0 rfl
        rw [g1 k hk]
        show q2.1 3 (5640 * 0 + k) = q2.1 3 k
        rw [show 5640 * 0 + k = k by omega]
      · refine d2_lG (fun hd => ?_)
        have c1 : p = 1 := of_decide_eq_true hd
        have eb : b = 1 := by rw [c1] at pe; omega
        subst eb
        refine d2_lV (c_copyFrom_s1_s56 q hT) (fun q7 C => m_back q2 p pe (by decide) (fun o2 g1 g2 g3 g4' => ?_))
        have C0 := C
        obtain ⟨C1, C2, C3, C4, C5⟩ := C
        have S0 : SRl 56 (56 + 1) q (fun k => q2.1 3 (5640 + k)) := h5 (fun z => c2 (g4.trans z))
        have S7 : SRl 1 (1 + 1) q7 (fun k => q2.1 3 (5640 + k)) := S0.cp C0 (fun _ => rfl)
        refine h.setA (S7.lk (fun k hk => ?_)) (fun j k hj => C4 j k (by omega)) (by rw [C5]) (fun j k hj => g3 j k (by omega)) (fun _ => 0) 0 rfl
        rw [g1 k hk]
  · rw [if_pos e1, if_pos e2]
    exact h.refA (-1)

