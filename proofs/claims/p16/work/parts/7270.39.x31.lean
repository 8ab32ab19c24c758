theorem m_lays6 (q : dS) (p1 : Int32) (t n : Nat) (hp : p1.toInt = (t : Int)) (ht : t ≤ 6) (hn : (q.1 0 18).toInt = (n : Int)) (hn4 : n ≤ 400) : dAll (zX10_lays q p1) (fun Q => (∀ j k : Nat, ¬ j = 2 → Q.1 j k = q.1 j k) ∧ Q.2 = q.2 ∧ ∀ i : Nat, Q.1 2 i = if 2840 + 400 * t ≤ i ∧ i < 2840 + 400 * t + n then q.1 10 (i - (2840 + 400 * t)) else if 40 + 400 * t ≤ i ∧ i < 40 + 400 * t + n then q.1 9 (i - (40 + 400 * t)) else if i = 33 + t then q.1 0 18 else q.1 2 i) := by
  have d0 : Int32.toInt 0 = 0 := by decide
  have d1 : Int32.toInt 1 = 1 := by decide
  unfold zX10_lays
  have t1 : Int32.toInt (33 + p1) = 33 + (t : Int) := ti_add (by decide) hp (by omega) (by omega)
  have n1 : Int32.toNatClampNeg (33 + p1) = 33 + t := by
    have := cl_eq (i := 33 + p1) (by omega)
    omega
  rw [n1]
  refine dA_G (fun _ => dA_L (fun q2 e2 => ?_))
  unfold zX10_lays_15
  refine dA_fix (fun (a : dS × Int32 × Int32) => a.2.1 = p1 ∧ (∀ j k : Nat, ¬ j = 2 → a.1.1 j k = q.1 j k) ∧ a.1.2 = q.2 ∧ ∃ m : Nat, m ≤ n ∧ Int32.toInt a.2.2 = (m : Int) ∧ ∀ i : Nat, a.1.1 2 i = if 2840 + 400 * t ≤ i ∧ i < 2840 + 400 * t + m then q.1 10 (i - (2840 + 400 * t)) else if 40 + 400 * t ≤ i ∧ i < 40 + 400 * t + m then q.1 9 (i - (40 + 400 * t)) else if i = 33 + t then q.1 0 18 else q.1 2 i) ?_ dF _ ⟨rfl, fun j k hj => by rw [e2, dui_o hj], by rw [e2]; rfl, 0, Nat.zero_le _, d0, fun i => ?_⟩
  · intro k hk a ha
    obtain ⟨qa, x1, x2⟩ := a
    obtain ⟨h1, h2, h3, m, hm, h4, h5⟩ := ha
    replace h1 : x1 = p1 := h1
    replace h2 : ∀ j k : Nat, ¬ j = 2 → qa.1 j k = q.1 j k := h2
    replace h3 : qa.2 = q.2 := h3
    replace h4 : Int32.toInt x2 = (m : Int) := h4
    replace h5 : ∀ i : Nat, qa.1 2 i = if 2840 + 400 * t ≤ i ∧ i < 2840 + 400 * t + m then q.1 10 (i - (2840 + 400 * t)) else if 40 + 400 * t ≤ i ∧ i < 40 + 400 * t + m then q.1 9 (i - (40 + 400 * t)) else if i = 33 + t then q.1 0 18 else q.1 2 i := h5
    subst h1
    show dAll (zX10_lays_15b (fun q x1 x2 => k (q, x1, x2)) qa x1 x2) _
    unfold zX10_lays_15b
    rw [h2 0 18 (by decide)]
    refine dA_le (fun c => ?_) (fun c => ?_)
    · have e : m = n := by omega
      subst e
      exact dA_some ⟨h2, h3, h5⟩
    have nm : Int32.toNatClampNeg x2 = m := by have n := cl_eq (i := x2) (by omega); omega
    have t2 : Int32.toInt (400 * x1) = 400 * (t : Int) := ti_mul (by decide) hp (by omega) (by omega)
    have t3 : Int32.toInt (40 + 400 * x1) = 40 + 400 * (t : Int) := ti_add (by decide) t2 (by omega) (by omega)
    have t4 : Int32.toInt (40 + 400 * x1 + x2) = 40 + 400 * (t : Int) + m := ti_add t3 h4 (by omega) (by omega)
    have t5 : Int32.toInt (2840 + 400 * x1) = 2840 + 400 * (t : Int) := ti_add (by decide) t2 (by omega) (by omega)
    have t6 : Int32.toInt (2840 + 400 * x1 + x2) = 2840 + 400 * (t : Int) + m := ti_add t5 h4 (by omega) (by omega)
    have n4 : Int32.toNatClampNeg (40 + 400 * x1 + x2) = 40 + 400 * t + m := by
      have := cl_eq (i := 40 + 400 * x1 + x2) (by omega)
      omega
    have n6 : Int32.toNatClampNeg (2840 + 400 * x1 + x2) = 2840 + 400 * t + m := by
      have := cl_eq (i := 2840 + 400 * x1 + x2) (by omega)
      omega
    rw [nm, n4, n6]
    refine dA_G (fun _ => dA_L (fun v2 ev2 => dA_G (fun _ => dA_L (fun q4 e4 => dA_G (fun _ => dA_L (fun v6 ev6 => dA_G (fun _ => dA_L (fun q8 e8 => ?_))))))))
    refine hk (q8, x1, x2 + 1) ⟨rfl, fun j b hj => ?_, ?_, m + 1, by omega, by show Int32.toInt (x2 + 1) = _; rw [ti_add h4 d1 (by omega) (by omega)]; omega, fun i => ?_⟩
    · show q8.1 j b = _
      rw [e8, dui_o hj, e4, dui_o hj]; exact h2 j b hj
    · show q8.2 = _
      rw [e8]
      show q4.2 = _
      rw [e4]; exact h3
    · show q8.1 2 i = _
      have v2e : v2 = q.1 9 m := by rw [ev2]; exact h2 9 m (by decide)
      have v6e : v6 = q.1 10 m := by rw [ev6, e4, dui_o (by decide)]; exact h2 10 m (by decide)
      rw [e8]
      by_cases c1 : i = 2840 + 400 * t + m
      · rw [c1, dui_e, if_pos (by omega), v6e, show 2840 + 400 * t + m - (2840 + 400 * t) = m by omega]
      · rw [dui_n c1, e4]
        by_cases c2 : i = 40 + 400 * t + m
        · rw [c2, dui_e, if_neg (by omega), if_pos (by omega), v2e, show 40 + 400 * t + m - (40 + 400 * t) = m by omega]
        · rw [dui_n c2, h5 i]
          by_cases c3 : 2840 + 400 * t ≤ i ∧ i < 2840 + 400 * t + m
          · rw [if_pos c3, if_pos (by omega)]
          · rw [if_neg c3, if_neg (show ¬ (2840 + 400 * t ≤ i ∧ i < 2840 + 400 * t + (m + 1)) by omega)]
            by_cases c4 : 40 + 400 * t ≤ i ∧ i < 40 + 400 * t + m
            · rw [if_pos c4, if_pos (by omega)]
            · rw [if_neg c4, if_neg (show ¬ (40 + 400 * t ≤ i ∧ i < 40 + 400 * t + (m + 1)) by omega)]
  · show q2.1 2 i = _
    rw [if_neg (by omega), if_neg (by omega), e2]
    by_cases c : i = 33 + t
    · rw [c, dui_e, if_pos rfl]
    · rw [dui_n c, if_neg c]
theorem HRl.r {q o : dK} {q2 o2 : dS} (h : HRl q q2) (h1 : o.1 10 2 = q.1 10 2) (h2 : ∀ i : Nat, i < 16 → o.2.1 11 i = q.2.1 11 i) (h3 : ∀ i : Nat, i < 16 → o.1 12 i = q.1 12 i) (h4 : o2.1 0 32 = q2.1 0 32) (h5 : ∀ k : Nat, k < 240 → o2.1 14 k = q2.1 14 k) (h6 : o2.1 2 29 = q2.1 2 29) : HRl o o2 := by
  obtain ⟨n, a1, a2, a3, a4⟩ := h
  refine ⟨n, a1, by rw [h1]; exact a2, by rw [h4]; exact a3, fun i hi => ?_⟩
  rw [h2 i (by omega), h3 i (by omega)]
  exact (a4 i hi).c (fun k hk => h5 _ (by omega)) h6
theorem SRl.l6 {s t : Nat} {q : dK} {R S : Nat → Int32} (h : SRl s t q R) (hR : ∀ k : Nat, ¬ k = 39 → ¬ (2440 ≤ k ∧ k < 2840) → ¬ 5240 ≤ k → S k = R k) : SRl s t q S := by
  obtain ⟨s0, s1, s2, s3, s4, s5, s6, s7, s8, s9⟩ := h
  obtain ⟨t1, t2, t3, t4⟩ := s0
  have hr : ∀ k : Nat, k < 33 → S k = R k := fun k hk => hR k (by omega) (by omega) (by omega)
  refine ⟨⟨by rw [hr 29 (by decide)]; exact t1, fun i hi => by rw [hr i (by omega), hr (6 + i) (by omega)]; exact t2 i hi, by rw [hr 12 (by decide)]; exact t3, by rw [hr 13 (by decide)]; exact t4⟩, ?_, ?_, ?_, ?_, ?_, ?_, ?_, fun i hi => ⟨?_, ?_⟩, fun F hF hl => ?_⟩
  · rw [hr 26 (by decide)]; exact s1
  · rw [hr 27 (by decide)]; exact s2
  · rw [hr 28 (by decide)]; exact s3
  · rw [hr 30 (by decide)]; exact s4
  · rw [hr 31 (by decide)]; exact s5
  · rw [hr 32 (by decide)]; exact s6
  · rw [hr 32 (by decide)]; exact s7
  · rw [hr _ (by omega)]; exact (s8 i hi).1
  · rw [hr _ (by omega)]; exact (s8 i hi).2
  · rw [hr 31 (by decide)] at hl
    have z := s9 F hF hl
    exact z.s z.1 rfl (hR _ (by omega) (by omega) (by omega)) (fun j hj => ⟨hR _ (by omega) (by omega) (by omega), hR _ (by omega) (by omega) (by omega)⟩)
theorem LRf.l6 {q o : dK} {q2 o2 : dS} (h : LRf q q2) (h20 : o.1 20 2 = q.1 20 2) (hX : o.2.2 = q.2.2) (hR : ∀ k : Nat, ¬ k = 39 → ¬ (2440 ≤ k ∧ k < 2840) → ¬ 5240 ≤ k → o2.1 2 k = q2.1 2 k) : LRf o o2 := by
  have e : dTx o (q.1 20 2) = dTx q (q.1 20 2) := by
    unfold dTx
    rw [hX]
  unfold LRf at h ⊢
  rw [h20, e, hR 32 (by decide) (by decide) (by decide)]
  rcases h with h | ⟨h1, F, T, m, L, cs, vs, k1, k2, k3, k4, k5, k6⟩
  · exact Or.inl h
  · exact Or.inr ⟨h1, F, T, m, L, cs, vs, k1, k2, k3, by rw [hR _ (by omega) (by omega) (by omega)]; exact k4, fun j hj => by rw [hR _ (by omega) (by omega) (by omega), hR _ (by omega) (by omega) (by omega)]; exact k5 j hj, k6⟩
/-- what orders leave -/
def ORX (q0 : dK) (p0 : dS) (o : dK) (o2 : dS) : Prop := TWR 2 o (o2.1 2) ∧ HRl o o2 ∧ (∀ j k : Nat, (j = 1 ∨ (5 ≤ j ∧ j ≤ 7) ∨ j = 9 ∨ (49 ≤ j ∧ j ≤ 62)) → o.1 j k = q0.1 j k) ∧ o.2.2 = q0.2.2 ∧ (∀ j k : Nat, (j = 3 ∨ j = 4) → o2.1 j k = p0.1 j k) ∧ ∀ k : Nat, 14 ≤ k → o2.1 2 k = p0.1 2 k
def PPo (q0 : dK) (p0 : dS) (o : Int32 × dK) (o2 : Int32 × dS) : Prop := ORX q0 p0 o.2 o2.2 ∧ ((o.1 = -1 ∧ o2.1 = o.2.1 22 2 ∧ o2.2.1 0 46 = p0.1 0 46) ∨ (0 ≤ Int32.toInt o.1 ∧ o2.1 = -3 ∧ o2.2.1 0 46 = o.1))
/-- the marks -/
def MKo (q0 : dK) (p0 : dS) (r1 : Int64) (U : Int32) : Prop := r1.toInt = pk (aT 2 q0) ∧ 0 ≤ r1.toInt ∧ TC q0 ∧ (∀ i : Nat, i < 16 → q0.2.1 13 i = q0.2.1 11 i ∧ q0.1 14 i = q0.1 12 i) ∧ q0.1 10 5 = q0.1 10 2 ∧ (∀ k : Nat, k < 14 → p0.1 5 (14 + k) = p0.1 2 k) ∧ (∀ k : Nat, k < 240 → p0.1 15 k = p0.1 14 k) ∧ U = p0.1 0 32 ∧ TWR 2 q0 (p0.1 2) ∧ HRl q0 p0
theorem m_122 (q : dS) (U x3 : Int32) : dAll (zX10_orders_122 dF q U x3 0) (fun o => o.1 = -3 ∧ o.2.1 0 32 = U ∧ o.2.1 0 46 = x3 ∧ (∀ k : Nat, k < 240 → o.2.1 14 k = q.1 15 k) ∧ ∀ j k : Nat, ¬ j = 14 → ¬ j = 1 → ¬ j = 0 → o.2.1 j k = q.1 j k) := by
  have d0 : Int32.toInt 0 = 0 := by decide
  have d1 : Int32.toInt 1 = 1 := by decide
  have d240 : Int32.toInt 240 = 240 := by decide
  unfold zX10_orders_122
  refine dA_fix (fun (a : dS × Int32 × Int32 × Int32) => a.2.1 = U ∧ a.2.2.1 = x3 ∧ ∃ i : Nat, i ≤ 240 ∧ Int32.toInt a.2.2.2 = (i : Int) ∧ (∀ k : Nat, k < i → a.1.1 14 k = q.1 15 k) ∧ ∀ j k : Nat, ¬ j = 14 → a.1.1 j k = q.1 j k) ?_ dF _ ⟨rfl, rfl, 0, Nat.zero_le _, d0, fun k hk => absurd hk (Nat.not_lt_zero k), fun _ _ _ => rfl⟩
  intro k122 hk a ha
  obtain ⟨qa, x1, x2, x4⟩ := a
  obtain ⟨a1, a2, i, hi, a3, a4, a5⟩ := ha
  replace a1 : x1 = U := a1
  replace a2 : x2 = x3 := a2
  replace a3 : Int32.toInt x4 = (i : Int) := a3
  replace a4 : ∀ k : Nat, k < i → qa.1 14 k = q.1 15 k := a4
  replace a5 : ∀ j k : Nat, ¬ j = 14 → qa.1 j k = q.1 j k := a5
  subst a1 a2
  show dAll (zX10_orders_122b (fun q x1 x3 x4 => k122 (q, x1, x3, x4)) qa x1 x2 x4) _
  unfold zX10_orders_122b
  have n4 : Int32.toNatClampNeg x4 = i := by have z := cl_eq (i := x4) (by omega); omega
  rw [n4]
  refine dA_le (fun c => dA_L (fun q1 e1 => dA_L (fun q2 e2 => dA_B (m_refuses q2 (-3)) (fun r3 q5 z => dA_some ⟨z.1, ?_⟩)))) (fun c => dA_G (fun _ => dA_L (fun v7 e7 => dA_G (fun _ => dA_L (fun q9 e9 => hk (q9, x1, x2, x4 + 1) ⟨rfl, rfl, i + 1, by omega, by show Int32.toInt (x4 + 1) = _; rw [ti_add a3 d1 (by omega) (by omega)]; omega, fun k hk' => ?_, fun j k hj => ?_⟩)))))
  · have z2 : ∀ j k : Nat, ¬ j = 1 → ¬ (j = 0 ∧ k = 0) → q5.1 j k = q2.1 j k := z.2.1
    refine ⟨?_, ?_, fun k hk' => ?_, fun j k j14 j1 j0 => ?_⟩
    · show q5.1 0 32 = _
      rw [z2 0 32 (by decide) (by decide), e2, dui_n (by decide), e1, dui_e]
    · show q5.1 0 46 = _
      rw [z2 0 46 (by decide) (by decide), e2, dui_e]
    · show q5.1 14 k = _
      rw [z2 14 k (by decide) (by omega), e2, dui_o (by decide), e1, dui_o (by decide)]; exact a4 k (by omega)
    · show q5.1 j k = _
      rw [z2 j k j1 (fun y => j0 y.1), e2, dui_o j0, e1, dui_o j0]; exact a5 j k j14
  · show q9.1 14 k = _
    rw [e9]
    by_cases ck : k = i
    · rw [ck, dui_e, e7, a5 15 i (by decide)]
    · rw [dui_n ck]; exact a4 k (by omega)
  · show q9.1 j k = _
    rw [e9, dui_o hj]; exact a5 j k hj
theorem c_btm (q : dK) : dAll (zX0_backToMark_s10 q) (fun o => o.1 10 2 = q.1 10 5 ∧ (∀ i : Nat, i < 16 → o.2.1 11 i = q.2.1 13 i ∧ o.1 12 i = q.1 14 i) ∧ (∀ j k : Nat, ¬ j = 12 → ¬ (j = 10 ∧ k = 2) → o.1 j k = q.1 j k) ∧ o.2.2 = q.2.2) := by
  unfold zX0_backToMark_s10
  refine dA_L (fun q1 e1 => dA_L (fun q2 e2 => dA_L (fun q3 e3 => dA_some ⟨?_, fun i hi => ⟨?_, ?_⟩, fun j k j12 j10 => ?_, ?_⟩)))
  · rw [e3, cui_e, e2]
    show (if (10 : Nat) = 12 then va_cpy (q1.1 14) (q1.1 12) 0 0 16 else q1.1 10) 5 = _
    rw [if_neg (by decide), e1]; rfl
  · rw [e3, e2, e1]
    show (if 0 ≤ i ∧ i < 0 + 16 then q.2.1 13 (0 + (i - 0)) else q.2.1 11 i) = _
    rw [if_pos (by omega), show 0 + (i - 0) = i by omega]
  · rw [e3, cui_o (by decide), e2, e1]
    show (if 0 ≤ i ∧ i < 0 + 16 then q.1 14 (0 + (i - 0)) else q.1 12 i) = _
    rw [if_pos (by omega), show 0 + (i - 0) = i by omega]
  · rw [e3, cui_x j10, e2]
    show (if j = 12 then va_cpy (q1.1 14) (q1.1 12) 0 0 16 else q1.1 j) k = _
    rw [if_neg j12, e1]; rfl
  · rw [e3, e2, e1]; rfl
theorem c_mark (q : dK) : dAll (zX0_mark_s10 q) (fun o => o.1 10 5 = q.1 10 2 ∧ (∀ i : Nat, i < 16 → o.2.1 13 i = q.2.1 11 i ∧ o.1 14 i = q.1 12 i) ∧ (∀ j k : Nat, ¬ j = 14 → ¬ (j = 10 ∧ k = 5) → o.1 j k = q.1 j k) ∧ (∀ j : Nat, ¬ j = 13 → o.2.1 j = q.2.1 j) ∧ o.2.2 = q.2.2) := by
  unfold zX0_mark_s10
  refine dA_L (fun q1 e1 => dA_L (fun q2 e2 => dA_L (fun q3 e3 => dA_some ⟨?_, fun i hi => ⟨?_, ?_⟩, fun j k j12 j10 => ?_, fun j hj => ?_, ?_⟩)))
  · rw [e3, cui_e, e2]
    show (if (10 : Nat) = 14 then va_cpy (q1.1 12) (q1.1 14) 0 0 16 else q1.1 10) 2 = _
    rw [if_neg (by decide), e1]; rfl
  · rw [e3, e2, e1]
    show (if 0 ≤ i ∧ i < 0 + 16 then q.2.1 11 (0 + (i - 0)) else q.2.1 13 i) = _
    rw [if_pos (by omega), show 0 + (i - 0) = i by omega]
  · rw [e3, cui_o (by decide), e2, e1]
    show (if 0 ≤ i ∧ i < 0 + 16 then q.1 12 (0 + (i - 0)) else q.1 14 i) = _
    rw [if_pos (by omega), show 0 + (i - 0) = i by omega]
  · rw [e3, cui_x j10, e2]
    show (if j = 14 then va_cpy (q1.1 12) (q1.1 14) 0 0 16 else q1.1 j) k = _
    rw [if_neg j12, e1]; rfl
  · rw [e3, e2, e1]
    show (if j = 13 then va_cpy (q.2.1 11) (q.2.1 13) 0 0 16 else q.2.1 j) = _
    rw [if_neg hj]
  · rw [e3, e2, e1]; rfl
/-- not at all -/
theorem or_fail {q0 : dK} {p0 : dS} {r1 : Int64} {U : Int32} (hM : MKo q0 p0 r1 U) (q : dK) (q2 : dS) (X x3 : Int32) (hT : TC q) (hk : kO q0 q) (hm : mO p0 q2) (hX : 0 ≤ Int32.toInt X) (he : x3 = X) : d2 (dV (zX8_unpack_s2 q r1) (fun q7 => dV (zX0_backToMark_s10 q7) (fun q10 => some (X, q10)))) (dV (zX10_takesBack q2 1) (fun q9 => zX10_orders_122 dF q9 U x3 0)) (PPo q0 p0) := by
  obtain ⟨m1, m2, m3, m4, m5, m6, m7, m8, m9, m10⟩ := hM
  refine d2_lV (dA_and (dA_of (ok2_X8_unpack_s2 q r1 m2)) (dA_and (c_unp2 q r1) (dA_of (ok_X8_unpack_s2 q r1 hT m2)))) (fun q7 u => ?_)
  obtain ⟨u1, u2, -, u3⟩ := u
  rw [m1, unp_pk (tc_a2 m3)] at u1
  have f7 : ∀ j k : Nat, ¬ (2 ≤ j ∧ j ≤ 4) → q7.1 j k = q.1 j k := fun j k hj => u3.1 j k (by simp only [List.mem_cons, List.not_mem_nil, or_false, not_or]; omega) (by simp only [List.mem_cons, List.not_mem_nil, or_false, not_or, Prod.mk.injEq]; omega)
  refine d2_lV (c_btm q7) (fun q10 b => ?_)
  obtain ⟨b1, b2, b3, b4⟩ := b
  refine d2_rV (dm_takesBack q2 1 14 (by decide) (by decide) (by decide)) (fun q9 t => ?_)
  obtain ⟨t1, t2, t3⟩ := t
  intro a b' ea eb
  cases ea
  obtain ⟨g1, g2, g3, g4, g5⟩ := m_122 q9 U x3 b' eb
  have k10 : ∀ j k : Nat, (j = 1 ∨ (5 ≤ j ∧ j ≤ 7) ∨ j = 9 ∨ (49 ≤ j ∧ j ≤ 62)) → q10.1 j k = q0.1 j k := fun j k hj => by
    rw [b3 j k (by omega) (by omega), f7 j k (by omega)]
    exact hk.1 j k (by simp only [List.mem_cons, List.not_mem_nil, or_false, not_or]; omega) (by omega) (by omega) (by omega)
  have r2 : ∀ k : Nat, b'.2.1 2 k = p0.1 2 k := fun k => by
    rw [g5 2 k (by decide) (by decide) (by decide)]
    by_cases c : k < 14
    · rw [t2 k c, hm.1 5 _ (by decide) (by decide) (by decide) (by decide) (by omega)]; exact m6 k c
    · rw [t3 k (by omega)]; exact hm.2 k (by omega)
  refine ⟨⟨?_, ?_, k10, ?_, fun j k hj => ?_, fun k _ => r2 k⟩, Or.inr ⟨hX, g1, by rw [g3]; exact he⟩⟩
  · refine TWR_a.mpr ?_
    have ea2 : aT 2 q10 = aT 2 q7 := by
      have e2 : q10.1 2 = q7.1 2 := funext (fun k => b3 2 k (by decide) (by omega))
      have e3 : q10.1 3 = q7.1 3 := funext (fun k => b3 3 k (by decide) (by omega))
      have e4 : q10.1 4 = q7.1 4 := funext (fun k => b3 4 k (by decide) (by omega))
      unfold aT
      rw [e2, e3, e4]
    show aT 2 q10 = _
    rw [ea2, u1]
    exact TWR_a.mp (m9.m r2)
  · refine m10.r ?_ (fun i hi => ?_) (fun i hi => ?_) ?_ (fun k hk' => ?_) (r2 29)
    · show q10.1 10 2 = _
      rw [b1, f7 10 5 (by omega), hk.1 10 5 (by decide) (by decide) (by decide) (by decide)]; exact m5
    · show q10.2.1 11 i = _
      rw [(b2 i hi).1, u2, hk.2.1 13 (by decide)]; exact (m4 i hi).1
    · show q10.1 12 i = _
      rw [(b2 i hi).2, f7 14 i (by omega), hk.1 14 i (by decide) (by omega) (by omega) (by omega)]; exact (m4 i hi).2
    · rw [g2]; exact m8
    · rw [g4 k hk', t1 15 (by decide), hm.1 15 k (by decide) (by decide) (by decide) (by decide) (by omega)]; exact m7 k hk'
  · show q10.2.2 = _
    rw [b4, u2]; exact hk.2.2.1
  · rw [g5 j k (by omega) (by omega) (by omega), t1 j (by omega)]
    exact hm.1 j k (by omega) (by omega) (by omega) (by omega) (by omega)
theorem ORI.ek {N : Int} {Q : Int → Prop} {q0 qa : dK} {p0 qm : dS} (hO : ORI N Q q0 p0 qa qm) (BQ : ∀ r : Int, Q r → r < 6) : ∃ A : Nat → Int, (∀ j : Nat, -2147483648 ≤ A j ∧ A j ≤ 2147483647) ∧ ∀ q' : dS, (∀ j k : Nat, ¬ (j = 0 ∧ ((22 ≤ k ∧ k ≤ 25) ∨ (48 ≤ k ∧ k ≤ 51))) → q'.1 j k = qm.1 j k) → EKo q' A := by
  obtain ⟨o1, oy, o2, o3, o4, o5, o6, o7, ⟨⟨m1, m2, m3⟩, -⟩⟩ := hO
  have f2 := rg_2_2 o1
  obtain ⟨n, hn⟩ : ∃ n : Nat, Int32.toInt (qa.1 2 2) = (n : Int) := ⟨(Int32.toInt (qa.1 2 2)).toNat, by omega⟩
  have hn6 : n ≤ 6 := by omega
  have hm29 : Int32.toInt (qm.1 2 29) = (n : Int) := o2.1.symm.trans hn
  refine ⟨wA qa n, wA_b hn6, fun q' hq' => ?_⟩
  have er : (fun i => Int32.toInt (q'.1 2 i)) = fun i => Int32.toInt (qm.1 2 i) := funext (fun i => by rw [hq' 2 i (by omega)])
  refine EKo_of (o2.m (fun k => hq' 2 k (by omega))) hn hn6 (by rw [hq' 0 27 (by omega), o4]) (by rw [hq' 0 28 (by omega), o5]) ?_ (fun x hx => ?_)
  · rw [er]
    exact fun x y hx hy e => m3 x y (by omega) (by omega) (by show Int32.toInt (qm.1 2 (0 + x)) = Int32.toInt (qm.1 2 (0 + y)); rw [Nat.zero_add, Nat.zero_add]; exact e)
  · rw [hq' 2 x (by omega)]
    exact BQ _ ((m2 _).mp ⟨x, by omega, by show Int32.toInt (qm.1 2 (0 + x)) = _; rw [Nat.zero_add]⟩)
/-- all clauses -/
theorem or_run {N : Int} {Q : Int → Prop} {q0 : dK} {p0 : dS} {cs vs : Nat → Int} {T m L : Nat} {r1 : Int64} {U : Int32} (hB : BF cs vs T Q q0 p0) (hM : MKo q0 p0 r1 U) (h256 : Int32.toInt (q0.1 25 6) = (m : Int)) (hL : L ≤ 400) (hC : CLS 1 17 cs vs (q0.1 26) (q0.1 27) (q0.1 28) (q0.1 29) (q0.1 30) (q0.1 31) m T L) (hO : ORI N Q q0 p0 q0 p0) (h47 : Int32.toInt (p0.1 0 47) = 2400) (x2 : Int32) (hx2 : Int32.toInt x2 = ((2400 + T : Nat) : Int)) : d2 (zX5_run_s22_s25_s2_s20_s10_24 dF q0 r1 0) (zX10_orders_95 dF p0 U x2 0) (PPo q0 p0) := by
  have d0 : Int32.toInt 0 = 0 := by decide
  have d1 : Int32.toInt 1 = 1 := by decide
  obtain ⟨ts, ws, fa, fb, fc, z0, m1, m12, hc⟩ := hC
  have hB0 := hB
  obtain ⟨BL, BM, BT, Btk, BcT, BQ⟩ := hB0
  unfold zX5_run_s22_s25_s2_s20_s10_24 zX10_orders_95
  refine d2_fix (fun (z : dK × Int64 × Int32) (y : dS × Int32 × Int32 × Int32) => z.2.1 = r1 ∧ y.2.1 = U ∧ y.2.2.1 = x2 ∧ ∃ i : Nat, i ≤ m ∧ Int32.toInt z.2.2 = (i : Int) ∧ Int32.toInt y.2.2.2 = (i : Int) ∧ ORI N Q q0 p0 z.1 y.1 ∧ ((i < m ∧ ts i ≤ T ∧ Int32.toInt (y.1.1 0 47) = ((2400 + ts i : Nat) : Int)) ∨ (i = m ∧ Int32.toInt (y.1.1 0 47) = ((2400 + (T + 1) : Nat) : Int)))) ?_ dF dF _ _ ⟨rfl, rfl, rfl, 0, Nat.zero_le _, d0, d0, hO, Or.inl ⟨by omega, by omega, by show Int32.toInt (p0.1 0 47) = _; rw [h47, z0]; rfl⟩⟩
  intro k24 k95 hkk z y hz
  obtain ⟨qa, y5, y7⟩ := z
  obtain ⟨qm, w1, w2, w3⟩ := y
  obtain ⟨h1, h2, h3, i, hi, h7, hw3, hOa, hp⟩ := hz
  replace h1 : r1 = y5 := Eq.symm h1
  replace h2 : U = w1 := Eq.symm h2
  replace h3 : x2 = w2 := Eq.symm h3
  replace h7 : Int32.toInt y7 = (i : Int) := h7
  replace hw3 : Int32.toInt w3 = (i : Int) := hw3
  replace hOa : ORI N Q q0 p0 qa qm := hOa
  replace hp : (i < m ∧ ts i ≤ T ∧ Int32.toInt (qm.1 0 47) = ((2400 + ts i : Nat) : Int)) ∨ (i = m ∧ Int32.toInt (qm.1 0 47) = ((2400 + (T + 1) : Nat) : Int)) := hp
  subst h1 h2 h3
  show d2 (zX5_run_s22_s25_s2_s20_s10_24b (fun q x5 x7 => k24 (q, x5, x7)) qa r1 y7) (zX10_orders_95b (fun q x1 x2 x3 => k95 (q, x1, x2, x3)) qm U x2 w3) _
  have hO0 := hOa
  obtain ⟨o1, oy, o2, o3, o4, o5, o6, o7, o8⟩ := hO0
  have r256 : Int32.toInt (qa.1 25 6) = (m : Int) := by rw [o6.1 25 6 (by decide) (by decide) (by decide) (by decide)]; exact h256
  unfold zX5_run_s22_s25_s2_s20_s10_24b zX10_orders_95b
  rcases hp with ⟨p1, p2, p3⟩ | ⟨p1, p2⟩
  · obtain ⟨q28, q29, q30, hab, hbc, hcL, hCR, hwT, hnx⟩ := hc i p1
    have hct : ¬ cs (ts i) = 0 := by
      obtain ⟨u, v, f, g, c1, -⟩ := hCR
      rcases c1 with c1 | c1
      · exact absurd c1.1 (by decide)
      · omega
    have htl : ts i < T := by
      have : ¬ ts i = T := fun e => hct (by rw [e]; exact BcT)
      omega
    refine d2_lif (fun ww => absurd (Int32.le_iff_toInt_le.mp ww) (by omega)) (fun _ => ?_)
    refine d2_rif (fun ww => absurd (Int32.le_iff_toInt_le.mp ww) (by omega)) (fun _ => ?_)
    have hCR0 := hCR
    obtain ⟨u, v, f, g, c1, c2, c3, c4⟩ := hCR0
    obtain ⟨kd, hkd⟩ : ∃ kd : Int, Int32.toInt (q0.1 26 i) = kd := ⟨_, rfl⟩
    obtain ⟨tm, htm⟩ : ∃ tm : Int, Int32.toInt (q0.1 27 i) = tm := ⟨_, rfl⟩
    rw [hkd, htm] at hCR
    rw [hkd] at c1 c2
    rw [htm] at c3
    have hk : 0 ≤ kd ∧ kd < 4 ∧ cs (ts i) = 22 + kd := by
      rcases c1 with z | z
      · exact absurd z.1 (by decide)
      · exact z.2
    have hm : (cs u = 26 ∧ cs (u + 1) = 50 ∧ tm = vs (u + 1) ∧ v = u + 2) ∨ (¬ cs u = 26 ∧ tm = 1 ∧ v = u) := by
      rcases c3 with z | z
      · exact Or.inl ⟨z.2.1, z.2.2.1, z.2.2.2.2.2.1, z.2.2.2.2.2.2⟩
      · exact Or.inr ⟨fun y => z.1 ⟨rfl, y⟩, z.2⟩
    obtain ⟨A, hAb, hEK⟩ := hOa.ek BQ
    have hs : ∃ S : Option Int, (¬ kd = 3 ∧ Sp 1 cs vs 2 (ts i + 1) u f ∧ ex2 cs u ∧ S = f A) ∨ (kd = 3 ∧ u = ts i + 1 ∧ S = some 0) := by
      rcases c2 with ⟨z, z2⟩ | ⟨z, z2⟩
      · rcases z with z | z
        · exact absurd z.1 (by decide)
        · exact ⟨f A, Or.inl ⟨z.2, z2.1, z2.2.1, rfl⟩⟩
      · rcases z with z | z
        · exact absurd z.1 (by decide)
        · exact ⟨some 0, Or.inr ⟨z.2, z2.1, rfl⟩⟩
    obtain ⟨S, hs⟩ := hs
    have ht : (cs v = 4 ∧ Sp 1 cs vs 6 (v + 1) (ws i) g ∧ ex6 cs (ws i)) ∨ (¬ cs v = 4 ∧ ws i = v) := by
      rcases c4 with z | z
      · exact Or.inl ⟨z.1, z.2.1, z.2.2.1⟩
      · exact Or.inr ⟨z.1, z.2.1⟩
    unfold zX10_runs
    refine d2_rBV (m_along (A := A) (S := S) qm x2 0 BT (fun j hj => by rw [o7.2 _ (by omega), o7.2 _ (by omega)]; exact Btk j hj) BcT hAb hEK hx2 p3 p2 hk hs hm ht) (fun qg zz => ?_)
    obtain ⟨g49, g48, -, g22, gf⟩ := zz
    have Og : ORI N Q q0 p0 qa qg := hOa.g (fun j k hj => gf j k (by omega))
    refine or_in hB h7 (by omega) hkd htm q28 q29 q30 hab hbc (by omega) hCR p2 r1 x2 hx2 (fun q q2 hq1 hq2 => ?_) (fun q q2 hT hk1 hm1 => ?_) qa qg (qg.1 0 48) (qg.1 0 22) Og (by rw [gf 0 47 (by omega)]; exact p3) g48 g22
    · rw [if_neg (show ¬ (1 : Int32) = 0 by decide)]
      refine hkk (q, r1, y7 + 1) (q2, U, x2, w3 + 1) ⟨rfl, rfl, rfl, i + 1, by omega, by show Int32.toInt (y7 + 1) = _; rw [ti_add h7 d1 (by omega) (by omega)]; omega, by show Int32.toInt (w3 + 1) = _; rw [ti_add hw3 d1 (by omega) (by omega)]; omega, hq1, ?_⟩
      rcases hnx with ⟨x1, x2', x3⟩ | ⟨x1, x2'⟩
      · have hwl : ws i < T := by
          have : ¬ ws i = T := fun e => by rw [e, BcT] at x2'; omega
          omega
        exact Or.inl ⟨x1, by omega, by show Int32.toInt (q2.1 0 47) = _; rw [hq2, x3]⟩
      · exact Or.inr ⟨x1, by show Int32.toInt (q2.1 0 47) = _; rw [hq2, x2']⟩
    · rw [if_pos rfl]
      exact or_fail hM q q2 y7 w3 hT hk1 hm1 (by omega) (i_eq (hw3.trans h7.symm))
  · refine d2_lif (fun _ => ?_) (fun ww => absurd (Int32.le_iff_toInt_le.mpr (by omega)) ww)
    refine d2_rif (fun _ => ?_) (fun ww => absurd (Int32.le_iff_toInt_le.mpr (by omega)) ww)
    refine d2_rB (m_good qm (qm.1 0 27)) (fun r1' q3 gg => d2_some ?_)
    have gg1 : r1' = qm.1 0 27 := gg.1
    have gg2 : ∀ j k : Nat, ¬ (j = 0 ∧ k = 0) → q3.1 j k = qm.1 j k := gg.2.1
    refine ⟨⟨o2.m (fun k => gg2 2 k (by omega)), o3.fr rfl rfl (fun _ => rfl) (gg2 0 32 (by decide)) (fun k => gg2 14 k (by omega)) (gg2 2 29 (by decide)), fun j k hj => o6.1 j k (by simp only [List.mem_cons, List.not_mem_nil, or_false, not_or]; omega) (by omega) (by omega) (by omega), o6.2.2.1, fun j k hj => ?_, fun k hk => ?_⟩, Or.inl ⟨rfl, ?_, ?_⟩⟩
    · show q3.1 j k = _
      rw [gg2 j k (by omega)]; exact o7.1 j k (by omega) (by omega) (by omega) (by omega) (by omega)
    · show q3.1 2 k = _
      rw [gg2 2 k (by omega)]; exact o7.2 k hk
    · show r1' = qa.1 22 2
      rw [gg1]; exact o4.symm
    · show q3.1 0 46 = _
      rw [gg2 0 46 (by decide)]; exact o7.1 0 46 (by decide) (by decide) (by decide) (by decide) (by decide)
/-- there: what can be undone laid aside, the tokens laid -/
theorem m_27 (q : dS) {x : Option (Int32 × dK)} {P : Int32 × dK → Int32 × dS → Prop} (H : ∀ o : dS, (∀ k : Nat, k < 240 → o.1 15 k = q.1 14 k) → (∀ j k : Nat, ¬ j = 15 → o.1 j k = q.1 j k) → d2 x (dV (zX10_lays o 6) (fun q3 => dL (dui q3 0 27 0) (fun q4 => dL (dui q4 0 28 (-1)) (fun q5 => dL (dui q5 0 47 2400) (fun q6 => zX10_orders_95 dF q6 (o.1 0 32) ((q6.1 0 47) + (q6.1 2 39)) 0))))) P) : d2 x (zX10_orders_27 dF q 0) P := by
  intro u v eu ev
  have d0 : Int32.toInt 0 = 0 := by decide
  have d1 : Int32.toInt 1 = 1 := by decide
  have d240 : Int32.toInt 240 = 240 := by decide
  have key : dAll (zX10_orders_27 dF q 0) (fun v => P u v) := by
    unfold zX10_orders_27
    refine dA_fix (fun (a : dS × Int32) => ∃ i : Nat, i ≤ 240 ∧ Int32.toInt a.2 = (i : Int) ∧ (∀ k : Nat, k < i → a.1.1 15 k = q.1 14 k) ∧ ∀ j k : Nat, ¬ j = 15 → a.1.1 j k = q.1 j k) ?_ dF _ ⟨0, Nat.zero_le _, d0, fun k hk => absurd hk (Nat.not_lt_zero k), fun _ _ _ => rfl⟩
    intro k27 hk a ha
    obtain ⟨qa, x1⟩ := a
    obtain ⟨i, hi, a3, a4, a5⟩ := ha
    replace a3 : Int32.toInt x1 = (i : Int) := a3
    replace a4 : ∀ k : Nat, k < i → qa.1 15 k = q.1 14 k := a4
    replace a5 : ∀ j k : Nat, ¬ j = 15 → qa.1 j k = q.1 j k := a5
    show dAll (zX10_orders_27b (fun q x1 => k27 (q, x1)) qa x1) _
    unfold zX10_orders_27b
    have n4 : Int32.toNatClampNeg x1 = i := by have z := cl_eq (i := x1) (by omega); omega
    rw [n4]
    refine dA_le (fun c => ?_) (fun c => dA_G (fun _ => dA_L (fun v8 e8 => dA_G (fun _ => dA_L (fun q10 e10 => hk (q10, x1 + 1) ⟨i + 1, by omega, by show Int32.toInt (x1 + 1) = _; rw [ti_add a3 d1 (by omega) (by omega)]; omega, fun k hk' => ?_, fun j k hj => ?_⟩)))))
    · intro v' ev'
      exact H qa (fun k hk' => a4 k (by omega)) a5 u v' eu ev'
    · show q10.1 15 k = _
      rw [e10]
      by_cases ck : k = i
      · rw [ck, dui_e, e8, a5 14 i (by decide)]
      · rw [dui_n ck]; exact a4 k (by omega)
    · show q10.1 j k = _
      rw [e10, dui_o hj]; exact a5 j k hj
  exact key v ev
/-- orders read and run -/
theorem sf_orders {q : dK} {q2 : dS} (hT : TC q) (hT2 : TS q2) (ht : ltY q q2) (hF : RFw q q2) {N : Int} {Q : Int → Prop} (hH : HM q2 N Q) : d2 (zX9_orders_s0 q) (zX10_orders q2) (fun o o2 => o.1 = o2.1 ∧ RFw o.2 o2.2 ∧ o.2.1 0 15 = o2.2.1 0 46) := by
  have d0 : Int32.toInt 0 = 0 := by decide
  have d1 : Int32.toInt 1 = 1 := by decide
  have d6 : Int32.toInt 6 = 6 := by decide
  have dm : Int32.toInt (-1) = -1 := by decide
  have d2400 : Int32.toInt 2400 = 2400 := by decide
  obtain ⟨L0, hL4, hc, hm, hB⟩ := ht
  unfold zX9_orders_s0 zX10_orders
  refine d2_lL (fun q1 e1 => d2_lL (fun q2' e2' => d2_rL (fun o1 g1 => ?_)))
  have hTb : TC q2' := by rw [e2', e1]; exact sa_0_15 (st_0_12 hT (by decide) (by decide))
  have k2 : ∀ j k : Nat, ¬ j = 0 → q2'.1 j k = q.1 j k := fun j k hj => by rw [e2', cui_o hj, e1, cui_o hj]
  have x2 : q2'.2 = q.2 := by rw [e2', e1]; rfl
  have v15 : q2'.1 0 15 = -1 := by rw [e2', cui_e]
  have m1 : ∀ j k : Nat, ¬ (j = 0 ∧ k = 46) → o1.1 j k = q2.1 j k := fun j k hj => by rw [g1, dui_x hj]
  have v46 : o1.1 0 46 = -1 := by rw [g1, dui_e]
  have hTo : TS o1 := by rw [g1]; exact ts_f hT2 (by decide) (by decide)
  have hm1 : Int32.toInt (o1.1 0 13) = (L0 : Int) := by rw [m1 0 13 (by decide)]; exact hm
  have hBo : ∀ i : Nat, i < L0 → tpR (Int32.toInt (q.1 46 i)) (Int32.toInt (o1.1 7 i)) := fun i hi => by rw [m1 7 i (by omega)]; exact hB i hi
  clear e1 e2' g1
  have hread : d2 (zX4_read_s24_s46_s25 q2' (q.1 0 12) 1) (zX10_readsAs o1 1) (fun x y => RdP x y ∧ (TC x.2 ∧ cFr [26, 27, 28, 29, 30, 31] [(24, 0), (24, 1), (24, 2), (24, 3), (24, 4), (24, 5), (24, 6), (24, 7), (24, 8), (24, 9), (24, 10), (25, 6), (25, 7)] q2' x.2) ∧ Lo (q2'.2.1 11) (q2'.2.1 13) x.2 ∧ TS y.2 ∧ aF o1 y.2 ∧ ∃ (T : Nat) (cs vs : Nat → Int), T ≤ 400 ∧ Int32.toInt (y.2.1 0 18) = (T : Int) ∧ (∀ j : Nat, Int32.toInt (y.2.1 9 j) = cs j ∧ Int32.toInt (y.2.1 10 j) = vs j) ∧ cs T = 0 ∧ (Int32.toInt x.1 = -1 → ∃ m L : Nat, L ≤ 400 ∧ Int32.toInt (x.2.1 25 6) = (m : Int) ∧ Int32.toInt (x.2.1 25 7) = (L : Int) ∧ CLS 1 17 cs vs (x.2.1 26) (x.2.1 27) (x.2.1 28) (x.2.1 29) (x.2.1 30) (x.2.1 31) m T L)) := by
    intro x y ex ey
    have hB1 : ∀ i : Nat, Int32.toInt (q2'.1 46 i) = Int32.toInt (q.1 46 i) := fun i => by rw [k2 46 i (by decide)]
    obtain ⟨T, ps, es, hK, h18⟩ := m_readsAs (B := fun i => Int32.toInt (q.1 46 i)) o1 1 L0 hTo (Or.inr rfl) hm1 hL4 hBo y ey
    refine ⟨r_read (B := fun i => Int32.toInt (q.1 46 i)) q2' o1 hTo (q.1 0 12) 1 L0 hL4 hc (Or.inr rfl) hB1 hm1 hBo x y ex ey, ?_, ?_, ?_⟩
    · exact dA_of (ok_X4_read_s24_s46_s25 q2' (q.1 0 12) 1 hTb (by omega) (Or.inr (by decide))) x ex
    · exact lo_zX4_read_s24_s46_s25 _ _ q2' (q.1 0 12) 1 ⟨rfl, rfl⟩ x ex
    · have z := dA_of (ok_readsAs true o1 1 hTo (by decide)) y ey
      refine ⟨z.1, z.2.1, T, _, _, hK.2.1, h18, fun j => ⟨rfl, rfl⟩, hK.2.2.2.2.2.1, fun hx => ?_⟩
      exact x_read (W := 17) hK (Or.inr ⟨rfl, rfl⟩) q2' hTb (q.1 0 12) 1 hL4 hc d1 hB1 x ex hx
  refine d2_BB hread (fun r3 q5 r2 q4 w => ?_)
  obtain ⟨⟨w1, w2⟩, ⟨w3, w4⟩, w9, w5, ⟨w6, w7⟩, T, cs, vs, y1, y2, y3, y4, y5⟩ := w
  replace w1 : Int32.toInt r3 = Int32.toInt (q4.1 0 14) := w1
  replace w2 : (Int32.toInt r2 = 1 ∧ Int32.toInt r3 = -1) ∨ (Int32.toInt r2 = 0 ∧ ¬ Int32.toInt r3 = -1) := w2
  replace w3 : TC q5 := w3
  replace w4 : cFr [26, 27, 28, 29, 30, 31] [(24, 0), (24, 1), (24, 2), (24, 3), (24, 4), (24, 5), (24, 6), (24, 7), (24, 8), (24, 9), (24, 10), (25, 6), (25, 7)] q2' q5 := w4
  replace w9 : Lo (q2'.2.1 11) (q2'.2.1 13) q5 := w9
  replace w5 : TS q4 := w5
  replace w6 : dFr [9, 10, 11] [8, 9, 10, 13, 14, 18, 19, 20, 21] o1 q4 := w6
  replace y2 : Int32.toInt (q4.1 0 18) = (T : Int) := y2
  replace y3 : ∀ j : Nat, Int32.toInt (q4.1 9 j) = cs j ∧ Int32.toInt (q4.1 10 j) = vs j := y3
  replace y5 : Int32.toInt r3 = -1 → ∃ m L : Nat, L ≤ 400 ∧ Int32.toInt (q5.1 25 6) = (m : Int) ∧ Int32.toInt (q5.1 25 7) = (L : Int) ∧ CLS 1 17 cs vs (q5.1 26) (q5.1 27) (q5.1 28) (q5.1 29) (q5.1 30) (q5.1 31) m T L := y5
  have m4 : ∀ j k : Nat, (j = 2 ∨ j = 3 ∨ j = 4 ∨ j = 5 ∨ j = 14 ∨ j = 15) → q4.1 j k = q2.1 j k := fun j k hj => by
    rw [w6.1 j (by simp only [List.mem_cons, List.not_mem_nil, or_false, not_or]; omega) (by omega)]; exact m1 j k (by omega)
  have m32 : q4.1 0 32 = q2.1 0 32 := by rw [w6.2 32 (by decide)]; exact m1 0 32 (by decide)
  have m46 : q4.1 0 46 = -1 := by rw [w6.2 46 (by decide)]; exact v46
  have k5 : ∀ j k : Nat, ¬ j = 0 → ¬ (26 ≤ j ∧ j ≤ 31) → ¬ j = 24 → ¬ j = 25 → q5.1 j k = q.1 j k := by
    intro j k j0 j26 j24 j25
    rw [w4.1 j k (by simp only [List.mem_cons, List.not_mem_nil, or_false, not_or]; omega) (by simp only [List.mem_cons, List.not_mem_nil, or_false, not_or, Prod.mk.injEq]; omega), k2 j k j0]
  have k15 : q5.1 0 15 = -1 := by rw [w4.1 0 15 (by decide) (by decide)]; exact v15
  have x5 : q5.2.2 = q.2.2 := by rw [w4.2, x2]
  have l5 : q5.2.1 11 = q.2.1 11 := by rw [w9.1, x2]
  have hF5 : RFw q5 q4 := hF.fr (fun j k hj => k5 j k (by omega) (by omega) (by omega) (by omega)) l5 (Pfx.eq x5) (fun j k hj => m4 j k (by omega)) m32
  have hH4 : HM q4 N Q := hm_fm ⟨funext (fun k => m4 2 k (by omega)), funext (fun k => m4 14 k (by omega)), funext (fun k => m4 15 k (by omega)), funext (fun k => m4 5 k (by omega)), m32⟩ hH
  refine d2_lL (fun q6 e6 => ?_)
  have k6 : ∀ j k : Nat, ¬ (j = 0 ∧ k = 13) → q6.1 j k = q5.1 j k := fun j k hj => by rw [e6, cui_x hj]
  have x6 : q6.2 = q5.2 := by rw [e6]; rfl
  have b13 : q6.1 0 13 = r3 := by rw [e6, cui_e]
  have hT6 : TC q6 := by rw [e6]; exact sa_0_13 w3
  have hF6 : RFw q6 q4 := hF5.fr (fun j k hj => k6 j k (by omega)) (by rw [x6]) (Pfx.eq (by rw [x6])) (fun _ _ _ => rfl) rfl
  clear e6
  refine d2_lif (fun c1 => ?_) (fun c1 => ?_)
  · have er3 : Int32.toInt r3 = -1 := by rw [← b13, c1]; exact dm
    have er2 : ¬ r2 = 0 := by
      rcases w2 with z | z
      · exact fun e => by rw [e] at z; omega
      · exact absurd er3 z.2
    refine d2_rif (fun z => absurd z er2) (fun _ => ?_)
    obtain ⟨m, L, v1, v2, v3, v4⟩ := y5 er3
    refine d2_lV (dA_and (c_seated w5 hF6.1) (dA_of (ok_X9_seated_s0 q6 hT6))) (fun q9 s => ?_)
    obtain ⟨⟨s1, s2, s3⟩, s4, -⟩ := s
    replace s4 : TC q9 := s4
    have run : d2 (zX5_run_s22_s25_s2_s20_s10 q9) (dV (zX10_laysAside q4 1) (fun q7 => zX10_orders_27 dF q7 0)) (fun o o2 => RFw o.2 o2.2 ∧ ((o.1 = -1 ∧ o2.1 = o.2.1 22 2 ∧ o2.2.1 0 46 = -1) ∨ (0 ≤ Int32.toInt o.1 ∧ o2.1 = -3 ∧ o2.2.1 0 46 = o.1))) := by
      unfold zX5_run_s22_s25_s2_s20_s10
      refine d2_lB (dA_and (dA_of (ok2_X8_pack_s2 q9 s4)) (dA_of (ok_X8_pack_s2 q9 s4))) (fun r1 q3 p => ?_)
      obtain ⟨⟨p1, p2⟩, -, p3⟩ := p
      replace p1 : q9 = q3 := Eq.symm p1
      replace p2 : r1.toInt = pk (aT 2 q9) := p2
      replace p3 : 0 ≤ r1.toInt := p3
      subst p1
      refine d2_lV (dA_and (c_mark q9) (dA_of (ok_X0_mark_s10 q9 s4))) (fun qm mm => ?_)
      obtain ⟨⟨n1, n2, n3, n4, n5⟩, n6, -⟩ := mm
      replace n6 : TC qm := n6
      refine d2_lL (fun q7 e7 => d2_lL (fun q8 e8 => ?_))
      have c8 : ∀ j k : Nat, ¬ j = 14 → ¬ (j = 10 ∧ k = 5) → ¬ (j = 22 ∧ (k = 2 ∨ k = 3)) → q8.1 j k = q9.1 j k := fun j k h1 h2 h3 => by rw [e8, cui_x (by omega), e7, cui_x (by omega)]; exact n3 j k h1 h2
      have c14 : ∀ k : Nat, q8.1 14 k = qm.1 14 k := fun k => by rw [e8, cui_o (by decide), e7, cui_o (by decide)]
      have c105 : q8.1 10 5 = qm.1 10 5 := by rw [e8, cui_o (by decide), e7, cui_o (by decide)]
      have x8 : q8.2 = qm.2 := by rw [e8, e7]; rfl
      have v222 : q8.1 22 2 = 0 := by rw [e8, cui_n (by decide), e7, cui_e]
      have v223 : q8.1 22 3 = -1 := by rw [e8, cui_e]
      have hT8 : TC q8 := by rw [e8, e7]; exact sa_22_3 (sa_22_2 n6)
      clear e7 e8
      refine d2_rV (dm_laysAside q4 1 14 (by decide) (by decide) (by decide)) (fun qa la => ?_)
      obtain ⟨la1, la2⟩ := la
      refine m_27 qa (fun qb lb1 lb2 => ?_)
      have b18 : Int32.toInt (qb.1 0 18) = (T : Int) := by rw [lb2 0 18 (by decide), la1 0 (by decide)]; exact y2
      refine d2_rV (m_lays6 qb 6 6 T (by decide) (by decide) b18 y1) (fun qc lc => ?_)
      obtain ⟨lc1, lc2, lc3⟩ := lc
      refine d2_rL (fun qd ed => d2_rL (fun qe ee => d2_rL (fun qf ef => ?_)))
      have f0 : ∀ j k : Nat, ¬ j = 2 → ¬ j = 5 → ¬ j = 15 → ¬ (j = 0 ∧ (k = 27 ∨ k = 28 ∨ k = 47)) → qf.1 j k = q4.1 j k := fun j k h2 h5 h15 h0 => by
        rw [ef, dui_x (by omega), ee, dui_x (by omega), ed, dui_x (by omega), lc1 j k h2, lb2 j k h15, la1 j h5]
      have fr : ∀ i : Nat, qf.1 2 i = qc.1 2 i := fun i => by rw [ef, dui_o (by decide), ee, dui_o (by decide), ed, dui_o (by decide)]
      have b2 : ∀ i : Nat, qb.1 2 i = q4.1 2 i := fun i => by rw [lb2 2 i (by decide), la1 2 (by decide)]
      have f2 : ∀ k : Nat, ¬ k = 39 → ¬ (2440 ≤ k ∧ k < 2840) → ¬ 5240 ≤ k → qf.1 2 k = q4.1 2 k := fun k h1 h2 h3 => by
        rw [fr, lc3, if_neg (by omega), if_neg (by omega), if_neg (by omega)]; exact b2 k
      have f39 : qf.1 2 39 = qb.1 0 18 := by rw [fr, lc3, if_neg (by omega), if_neg (by omega), if_pos rfl]
      have v47 : qf.1 0 47 = 2400 := by rw [ef, dui_e]
      have v27 : qf.1 0 27 = 0 := by rw [ef, dui_n (by decide), ee, dui_n (by decide), ed, dui_e]
      have v28 : qf.1 0 28 = -1 := by rw [ef, dui_n (by decide), ee, dui_e]
      have f5 : ∀ k : Nat, k < 14 → qf.1 5 (14 + k) = qf.1 2 k := fun k hk => by
        rw [f2 k (by omega) (by omega) (by omega), ef, dui_o (by decide), ee, dui_o (by decide), ed, dui_o (by decide), lc1 5 _ (by decide), lb2 5 _ (by decide)]; exact la2 k hk
      have f15 : ∀ k : Nat, k < 240 → qf.1 15 k = qf.1 14 k := fun k hk => by
        rw [f0 14 k (by decide) (by decide) (by decide) (by omega), ef, dui_o (by decide), ee, dui_o (by decide), ed, dui_o (by decide), lc1 15 _ (by decide), lb1 k hk, la1 14 (by decide)]
      have tk : ∀ j : Nat, j < T → Int32.toInt (qf.1 2 (40 + (2400 + j))) = cs j ∧ Int32.toInt (qf.1 2 (2840 + (2400 + j))) = vs j := fun j hj => by
        have h9 : qb.1 9 j = q4.1 9 j := by rw [lb2 9 j (by decide), la1 9 (by decide)]
        have h10 : qb.1 10 j = q4.1 10 j := by rw [lb2 10 j (by decide), la1 10 (by decide)]
        constructor
        · rw [fr, lc3, if_neg (by omega), if_pos (by omega), show 40 + (2400 + j) - (40 + 400 * 6) = j by omega, h9]; exact (y3 j).1
        · rw [fr, lc3, if_pos (by omega), show 2840 + (2400 + j) - (2840 + 400 * 6) = j by omega, h10]; exact (y3 j).2
      clear ed ee ef lc3
      have f32 : qf.1 0 32 = q4.1 0 32 := f0 0 32 (by decide) (by decide) (by decide) (by decide)
      have eb32 : qb.1 0 32 = qf.1 0 32 := by rw [lb2 0 32 (by decide), la1 0 (by decide), f32]
      rw [eb32]
      have sT : SRl 1 2 q8 (qf.1 2) := (hF6.1.fr (o := q8) (S := q4.1 2) (fun j k hj => by rw [c8 j k (by omega) (by omega) (by omega)]; exact s3.1 j k (by omega) (by omega)) (Pfx.eq (by rw [x8, n5, s3.2])) (fun _ => rfl)).l6 f2
      have hH8 : HRl q8 qf := hF6.2.1.fr (by rw [c8 10 2 (by decide) (by decide) (by decide)]; exact s3.1 10 2 (by decide) (by decide)) (by rw [x8, n4 11 (by decide), s3.2]) (fun k => by rw [c8 12 k (by decide) (by omega) (by omega)]; exact s3.1 12 k (by omega) (by omega)) f32 (fun k => f0 14 k (by decide) (by decide) (by decide) (by omega)) (f2 29 (by decide) (by decide) (by decide))
      have rd : ∀ j k : Nat, (25 ≤ j ∧ j ≤ 31) → q8.1 j k = q5.1 j k := fun j k hj => by
        rw [c8 j k (by omega) (by omega) (by omega), s3.1 j k (by omega) (by omega)]; exact k6 j k (by omega)
      have hHf : HM qf N Q := hm_33 hH4 f32 (funext (fun k => f0 14 k (by decide) (by decide) (by decide) (by omega))) (fun i hi => f2 i (by omega) (by omega) (by omega))
      have hOR : ORI N Q q8 qf q8 qf := by
        refine ⟨hT8, ?_, sT.1, hH8, by rw [v222, v27], by rw [v223, v28], ⟨fun _ _ _ _ _ _ => rfl, fun _ _ => rfl, rfl, rfl⟩, ⟨fun _ _ _ _ _ _ _ => rfl, fun _ _ => rfl⟩, hHf⟩
        rw [sT.1.2.2.2, f2 13 (by decide) (by decide) (by decide)]
        exact (w5.1 2 13).2
      have hQ6 : ∀ r : Int, Q r → r < 6 := by
        intro r hr
        obtain ⟨⟨hm1', hm2', -⟩, -, hN6, -⟩ := hH4
        obtain ⟨i, hi, e⟩ := (hm2' r).mpr hr
        have hb : Int32.toInt (q4.1 2 (0 + i)) ≤ khi (0 + i) := (w5.1 2 (0 + i)).2
        have hk : khi (0 + i) = 5 := by
          unfold khi
          rw [if_pos (by omega)]
        rw [hk] at hb
        have e' : Int32.toInt (q4.1 2 (0 + i)) = r := e
        omega
      have hBF : BF cs vs T Q q8 qf := ⟨s1.l6 (c8 20 2 (by decide) (by decide) (by decide)) (by rw [x8, n5]) f2, by rw [c8 21 8 (by decide) (by decide) (by decide), f2 27 (by decide) (by decide) (by decide)]; exact s2, y1, tk, y4, hQ6⟩
      have a98 : aT 2 q8 = aT 2 q9 := by
        have e2 : q8.1 2 = q9.1 2 := funext (fun k => c8 2 k (by decide) (by omega) (by omega))
        have e3 : q8.1 3 = q9.1 3 := funext (fun k => c8 3 k (by decide) (by omega) (by omega))
        have e4 : q8.1 4 = q9.1 4 := funext (fun k => c8 4 k (by decide) (by omega) (by omega))
        unfold aT
        rw [e2, e3, e4]
      have hMK : MKo q8 qf r1 (qf.1 0 32) := by
        refine ⟨by rw [a98]; exact p2, p3, hT8, fun i hi => ⟨?_, ?_⟩, ?_, f5, f15, rfl, sT.1, hH8⟩
        · rw [x8, (n2 i hi).1, n4 11 (by decide)]
        · rw [c14, (n2 i hi).2, c8 12 i (by decide) (by omega) (by omega)]
        · rw [c105, n1, c8 10 2 (by decide) (by decide) (by decide)]
      have hCL : CLS 1 17 cs vs (q8.1 26) (q8.1 27) (q8.1 28) (q8.1 29) (q8.1 30) (q8.1 31) m T L := by
        rw [show q8.1 26 = q5.1 26 from funext (fun k => rd 26 k (by omega)), show q8.1 27 = q5.1 27 from funext (fun k => rd 27 k (by omega)), show q8.1 28 = q5.1 28 from funext (fun k => rd 28 k (by omega)), show q8.1 29 = q5.1 29 from funext (fun k => rd 29 k (by omega)), show q8.1 30 = q5.1 30 from funext (fun k => rd 30 k (by omega)), show q8.1 31 = q5.1 31 from funext (fun k => rd 31 k (by omega))]
        exact v4
      refine d2_mono (or_run hBF hMK (by rw [rd 25 6 (by omega)]; exact v2) v1 hCL hOR (by rw [v47]; exact d2400) (qf.1 0 47 + qf.1 2 39) ?_) (fun a b w => ⟨?_, ?_⟩)
      · rw [v47, f39, ti_add d2400 b18 (by omega) (by omega)]; omega
      · obtain ⟨⟨z1, z2, z3, z4, z5, z6⟩, -⟩ := w
        refine hF6.st (sT.tw z1 (fun j k hj => z3 j k (by omega)) (Pfx.eq z4) (fun k hk _ => z6 k hk)) z2 (fun j k hj => ?_) ?_ (fun j k hj => ?_)
        · rw [z3 j k (by omega), c8 j k (by omega) (by omega) (by omega)]; exact s3.1 j k (by omega) (by omega)
        · rw [z4, x8, n5, s3.2]
        · rw [z5 j k hj]; exact f0 j k (by omega) (by omega) (by omega) (by omega)
      · rcases w.2 with ⟨z1, z2, z3⟩ | z
        · exact Or.inl ⟨z1, z2, by rw [z3, f0 0 46 (by decide) (by decide) (by decide) (by decide)]; exact m46⟩
        · exact Or.inr z
    have run2 : d2 (dB (zX5_run_s22_s25_s2_s20_s10 q9) (fun r10 q12 => dL (cui q12 0 15 r10) (fun q13 => if (q13.1 0 15) = (-1) then dB (zX9_accept_s0 q13 (q13.1 22 2)) (fun r17 q19 => zX9_orders_s0_109 q19 r17) else dB (zX9_refuse_s0 q13 (-3)) (fun r14 q16 => zX9_orders_s0_109 q16 r14)))) (dV (zX10_laysAside q4 1) (fun q7 => zX10_orders_27 dF q7 0)) (fun o o2 => o.1 = o2.1 ∧ RFw o.2 o2.2 ∧ o.2.1 0 15 = o2.2.1 0 46) := by
      intro a b ea eb
      obtain ⟨r10, q12, e3, e4⟩ := dB_some ea
      obtain ⟨z1, z3⟩ := run (r10, q12) b e3 eb
      replace z1 : RFw q12 b.2 := z1
      replace z3 : (r10 = -1 ∧ b.1 = q12.1 22 2 ∧ b.2.1 0 46 = -1) ∨ (0 ≤ Int32.toInt r10 ∧ b.1 = -3 ∧ b.2.1 0 46 = r10) := z3
      have key : dAll (dL (cui q12 0 15 r10) (fun q13 => if (q13.1 0 15) = (-1) then dB (zX9_accept_s0 q13 (q13.1 22 2)) (fun r17 q19 => zX9_orders_s0_109 q19 r17) else dB (zX9_refuse_s0 q13 (-3)) (fun r14 q16 => zX9_orders_s0_109 q16 r14))) (fun o => o.1 = b.1 ∧ RFw o.2 b.2 ∧ o.2.1 0 15 = b.2.1 0 46) := by
        unfold zX9_orders_s0_109
        refine dA_L (fun q13 e13 => ?_)
        have v : q13.1 0 15 = r10 := by rw [e13, cui_e]
        have f13 : ∀ j k : Nat, ¬ j = 0 → q13.1 j k = q12.1 j k := fun j k hj => by rw [e13, cui_o hj]
        have x13 : q13.2 = q12.2 := by rw [e13]; rfl
        rw [v]
        refine dA_if (fun c => ?_) (fun c => ?_)
        · rcases z3 with ⟨y1, y2, y3⟩ | ⟨y1, -, -⟩
          · refine dA_B (c_accept q13 _) (fun r17 q19 u => dA_some ?_)
            have u1 : r17 = q13.1 22 2 := u.1
            have u2 : q19 = cui q13 0 18 0 := u.2
            refine ⟨?_, z1.fr (fun j k hj => ?_) ?_ (Pfx.eq ?_) (fun _ _ _ => rfl) rfl, ?_⟩
            · show r17 = b.1
              rw [u1, f13 22 2 (by decide)]; exact y2.symm
            · show q19.1 j k = _
              rw [u2, cui_o (by omega)]; exact f13 j k (by omega)
            · show q19.2.1 11 = _
              rw [u2]
              show q13.2.1 11 = _
              rw [x13]
            · show q19.2.2 = _
              rw [u2]
              show q13.2.2 = _
              rw [x13]
            · show q19.1 0 15 = _
              rw [u2, cui_n (by decide), v, y1, y3]
          · rw [c] at y1; omega
        · rcases z3 with ⟨y1, -, -⟩ | ⟨y1, y2, y3⟩
          · exact absurd y1 c
          · refine dA_B (c_refuse q13 (-3)) (fun r14 q16 u => dA_some ?_)
            have u1 : r14 = -3 := u.1
            have u2 : ∀ j k : Nat, ¬ j = 48 → ¬ (j = 0 ∧ k = 18) → q16.1 j k = q13.1 j k := u.2.1
            have u3 : q16.2 = q13.2 := u.2.2
            refine ⟨?_, z1.fr (fun j k hj => ?_) ?_ (Pfx.eq ?_) (fun _ _ _ => rfl) rfl, ?_⟩
            · show r14 = b.1
              rw [u1, y2]
            · show q16.1 j k = _
              rw [u2 j k (by omega) (by omega)]; exact f13 j k (by omega)
            · show q16.2.1 11 = _
              rw [u3, x13]
            · show q16.2.2 = _
              rw [u3, x13]
            · show q16.1 0 15 = _
              rw [u2 0 15 (by decide) (by decide), v, y3]
      exact key a e4
    exact run2
  · have er2 : r2 = 0 := by
      rcases w2 with z | z
      · exact absurd (i_eq ((by rw [b13]; exact z.2 : Int32.toInt (q6.1 0 13) = -1).trans dm.symm)) c1
      · exact i_eq (z.1.trans d0.symm)
    rw [if_pos er2]
    refine d2_mono (d2_and (hF6.refA (-6)) (d2_lB (c_refuse q6 (-6)) (fun r q3 y => d2_rB (m_refuses q4 (-6)) (fun r' q4' z => d2_some (P := fun (o : Int32 × dK) (o2 : Int32 × dS) => o.2.1 0 15 = o2.2.1 0 46) ?_)))) (fun a b w => ⟨w.1.1, w.1.2, w.2⟩)
    have y2' : ∀ j k : Nat, ¬ j = 48 → ¬ (j = 0 ∧ k = 18) → q3.1 j k = q6.1 j k := y.2.1
    have z2 : ∀ j k : Nat, ¬ j = 1 → ¬ (j = 0 ∧ k = 0) → q4'.1 j k = q4.1 j k := z.2.1
    show q3.1 0 15 = q4'.1 0 46
    rw [y2' 0 15 (by decide) (by decide), k6 0 15 (by decide), k15, z2 0 46 (by decide) (by decide), m46]

