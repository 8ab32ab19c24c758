/-! a call that moves the tower: whole, on both sides -/
theorem c_accept (q : dK) (p : Int32) : dAll (zX9_accept_s0 q p) (fun o => o.1 = p ∧ o.2 = cui q 0 18 0) := by
  unfold zX9_accept_s0
  exact dA_L (fun q1 e1 => dA_some ⟨rfl, e1⟩)
theorem c_refuse (q : dK) (p : Int32) : dAll (zX9_refuse_s0 q p) (fun o => o.1 = p ∧ (∀ j k : Nat, ¬ j = 48 → ¬ (j = 0 ∧ k = 18) → o.2.1 j k = q.1 j k) ∧ o.2.2 = q.2) := by
  unfold zX9_refuse_s0 zX9_refuse_s0_26
  refine dA_L (fun q1 e1 => ?_)
  have h1 : ∀ j k : Nat, ¬ (j = 0 ∧ k = 18) → q1.1 j k = q.1 j k := fun j k h => by rw [e1, cui_x h]
  have h2 : q1.2 = q.2 := by rw [e1]; rfl
  refine dA_if (fun _ => dA_some ⟨rfl, fun j k _ h => h1 j k h, h2⟩) (fun _ => dA_if (fun _ => dA_some ⟨rfl, fun j k _ h => h1 j k h, h2⟩) (fun _ => dA_G (fun _ => dA_L (fun v3 e3 => dA_G (fun _ => dA_L (fun q5 e5 => dA_some ⟨rfl, fun j k hj h => ?_, ?_⟩))))))
  · show q5.1 j k = q.1 j k
    rw [e5, cui_o hj]; exact h1 j k h
  · show q5.2 = q.2
    rw [e5]; exact h2
theorem m_refuses (q : dS) (p : Int32) : dAll (zX10_refuses q p) (fun o => o.1 = p ∧ (∀ j k : Nat, ¬ j = 1 → ¬ (j = 0 ∧ k = 0) → o.2.1 j k = q.1 j k) ∧ o.2.2 = q.2) := by
  unfold zX10_refuses
  refine dA_L (fun q1 e1 => dA_G (fun _ => dA_L (fun v3 e3 => dA_G (fun _ => dA_L (fun q5 e5 => dA_some ⟨rfl, fun j k hj h => ?_, ?_⟩)))))
  · show q5.1 j k = _
    rw [e5, dui_o hj, e1]
    by_cases c : j = 0
    · rw [c, dui_n (fun y => h ⟨c, y⟩)]
    · rw [dui_o c]
  · show q5.2 = _
    rw [e5, e1]; rfl
theorem m_good (q : dS) (p : Int32) : dAll (zX10_good q p) (fun o => o.1 = p ∧ (∀ j k : Nat, ¬ (j = 0 ∧ k = 0) → o.2.1 j k = q.1 j k) ∧ o.2.2 = q.2) := by
  unfold zX10_good
  refine dA_L (fun q1 e1 => dA_some ⟨rfl, fun j k h => ?_, by rw [e1]; rfl⟩)
  show q1.1 j k = _
  rw [e1]
  by_cases c : j = 0
  · rw [c, dui_n (fun y => h ⟨c, y⟩)]
  · rw [dui_o c]
theorem m_goodOr (q : dS) (p : Int32) : dAll (zX10_goodOr q p) (fun o => o.1 = p ∧ (∀ j k : Nat, ¬ j = 1 → ¬ (j = 0 ∧ k = 0) → o.2.1 j k = q.1 j k) ∧ o.2.2 = q.2) := by
  unfold zX10_goodOr zX10_goodOr_17
  exact dA_if (fun _ => dA_B (m_good q p) (fun r q3 z => dA_some ⟨z.1, fun j k _ h => z.2.1 j k h, z.2.2⟩)) (fun _ => dA_B (m_refuses q p) (fun r q3 z => dA_some z))
/-- what a call that moves the tower leaves -/
def MV (q : dK) (q2 : dS) (o : dK) (o2 : dS) : Prop := SRl 1 2 o (o2.1 2) ∧ HRl o o2 ∧ (∀ j k : Nat, j ∉ [2, 3, 4, 12, 19, 21, 48] → ¬ (j = 0 ∧ k = 18) → ¬ (j = 18 ∧ k = 1) → ¬ (j = 10 ∧ k = 2) → ¬ (j = 20 ∧ k = 2) → o.1 j k = q.1 j k) ∧ (∀ j : Nat, ¬ j = 11 → o.2.1 j = q.2.1 j) ∧ o.2.2 = q.2.2 ∧ (∀ j k : Nat, j ∉ [1, 2, 12, 13, 14] → ¬ (j = 0 ∧ (k = 0 ∨ (22 ≤ k ∧ k ≤ 25) ∨ k = 32)) → o2.1 j k = q2.1 j k) ∧ (∀ k : Nat, 14 ≤ k → o2.1 2 k = q2.1 2 k) ∧ o2.2 = q2.2
theorem HRl.fr {q o : dK} {q2 o2 : dS} (h : HRl q q2) (h1 : o.1 10 2 = q.1 10 2) (h2 : o.2.1 11 = q.2.1 11) (h3 : ∀ k : Nat, o.1 12 k = q.1 12 k) (h4 : o2.1 0 32 = q2.1 0 32) (h5 : ∀ k : Nat, o2.1 14 k = q2.1 14 k) (h6 : o2.1 2 29 = q2.1 2 29) : HRl o o2 := by
  obtain ⟨n, k1, k2, k3, k4⟩ := h
  refine ⟨n, k1, by rw [h1]; exact k2, by rw [h4]; exact k3, fun i hi => ?_⟩
  rw [h2, h3]
  exact (k4 i hi).c (fun k _ => h5 _) h6
theorem TWR.q {t : Nat} {q o : dK} {R S : Nat → Int32} (h : TWR t q R) (h0 : ∀ k : Nat, o.1 t k = q.1 t k) (h1 : ∀ k : Nat, o.1 (t + 1) k = q.1 (t + 1) k) (h2 : ∀ k : Nat, o.1 (t + 2) k = q.1 (t + 2) k) (hR : ∀ k : Nat, k < 14 ∨ k = 29 → S k = R k) : TWR t o S := by
  obtain ⟨t1, t2, t3, t4⟩ := h
  refine ⟨by rw [h0, hR 29 (by decide)]; exact t1, fun i hi => ⟨?_, ?_⟩, by rw [h0, hR 12 (by decide)]; exact t3, by rw [h0, hR 13 (by decide)]; exact t4⟩
  · rw [h1, hR i (by omega)]; exact (t2 i hi).1
  · rw [h2, hR (6 + i) (by omega)]; exact (t2 i hi).2
theorem MV.rf {q o : dK} {q2 o2 : dS} (hs : SRl 1 2 q (q2.1 2)) (hh : HRl q q2) (kk : ∀ j k : Nat, ¬ j = 19 → ¬ j = 21 → ¬ j = 48 → ¬ (j = 0 ∧ k = 18) → ¬ (j = 18 ∧ k = 1) → ¬ (j = 20 ∧ k = 2) → o.1 j k = q.1 j k) (kx : o.2 = q.2) (mm : ∀ j k : Nat, ¬ j = 1 → ¬ j = 12 → ¬ (j = 0 ∧ (k = 0 ∨ (22 ≤ k ∧ k ≤ 25))) → o2.1 j k = q2.1 j k) (mx : o2.2 = q2.2) : MV q q2 o o2 := by
  have m2 : ∀ k : Nat, o2.1 2 k = q2.1 2 k := fun k => mm 2 k (by decide) (by decide) (by omega)
  have k1 : ∀ j k : Nat, j < 8 → 0 < j → o.1 j k = q.1 j k := fun j k h h0 => kk j k (by omega) (by omega) (by omega) (by omega) (by omega) (by omega)
  refine ⟨hs.mv (hs.1.q (fun k => k1 2 k (by decide) (by decide)) (fun k => k1 3 k (by decide) (by decide)) (fun k => k1 4 k (by decide) (by decide)) (fun k _ => m2 k)) (fun k => k1 1 k (by decide) (by decide)) (fun k => k1 5 k (by decide) (by decide)) (fun k => k1 6 k (by decide) (by decide)) (fun k => k1 7 k (by decide) (by decide)) (Pfx.eq (congrArg Prod.snd kx)) (fun k _ => m2 k), ?_, fun j k h1 h2 h3 h4 h5 => ?_, fun j _ => congrFun (congrArg Prod.fst kx) j, congrArg Prod.snd kx, fun j k h1 h2 => ?_, fun k _ => m2 k, mx⟩
  · exact hh.fr (kk 10 2 (by decide) (by decide) (by decide) (by decide) (by decide) (by decide)) (congrFun (congrArg Prod.fst kx) 11) (fun k => kk 12 k (by decide) (by decide) (by decide) (by omega) (by omega) (by omega)) (mm 0 32 (by decide) (by decide) (by omega)) (fun k => mm 14 k (by decide) (by decide) (by omega)) (m2 29)
  · simp only [List.mem_cons, List.not_mem_nil, or_false, not_or] at h1
    exact kk j k h1.2.2.2.2.1 h1.2.2.2.2.2.1 h1.2.2.2.2.2.2 h2 h3 h5
  · simp only [List.mem_cons, List.not_mem_nil, or_false, not_or] at h1
    exact mm j k h1.1 h1.2.2.1 (fun y => h2 ⟨y.1, y.2.elim Or.inl (fun y2 => Or.inr (Or.inl y2))⟩)
theorem sf_move {q : dK} {q2 : dS} (kd num : Int32) {Y : Option (Int32 × dS)} (hT : TC q) (hT2 : TS q2) (hs : SRl 1 2 q (q2.1 2)) (hh : HRl q q2)
    (hA : ∀ (n : Nat) (q6 : dK), TC q6 → LRf q6 q2 → TWR 2 q6 (q2.1 2) → Int32.toInt (q6.1 21 8) = Int32.toInt (q2.1 2 27) → Int32.toInt (q2.1 0 32) = (n : Int) → n ≤ 16 → d2 (zX8_act_s2_s20 q6 kd num) Y (ACT kd n q6 q2)) :
    d2 (zX9_move_s0 q kd num) (dB Y (fun r1 q3 => dB (zX10_goodOr q3 r1) (fun r4 q6 => some (r4, q6)))) (fun o o2 => o.1 = o2.1 ∧ MV q q2 o.2 o2.2) := by
  have d0 : Int32.toInt 0 = 0 := by decide
  have hh0 := hh
  obtain ⟨n, h1, h2, h3, h4⟩ := hh
  unfold zX9_move_s0
  refine d2_lB (dA_of (ok2_X8_pack_s2 q hT)) (fun r1 q3 z => ?_)
  obtain ⟨z1, z2⟩ := z
  replace z1 : q3 = q := z1
  replace z2 : r1.toInt = pk (aT 2 q) := z2
  subst z1
  refine d2_lV (dA_and (c_seated hT2 hs) (dA_of (ok_X9_seated_s0 q3 hT))) (fun q6 w => ?_)
  obtain ⟨⟨w1, w2, w3⟩, w4, -⟩ := w
  have ht6 : TWR 2 q6 (q2.1 2) := hs.1.q (fun k => w3.1 2 k (by omega) (by omega)) (fun k => w3.1 3 k (by omega) (by omega)) (fun k => w3.1 4 k (by omega) (by omega)) (fun _ _ => rfl)
  refine d2_BB (hA n q6 w4 w1 ht6 w2 h3 h1) (fun r7 q9 r8 q10 a => ?_)
  obtain ⟨a1, a2⟩ := a
  replace a1 : r7 = r8 := a1
  subst a1
  replace a2 : (Int32.toInt r7 < 0 ∧ -6 ≤ Int32.toInt r7 ∧ kfr q6 q9 ∧ mf2 q2 q10) ∨ (0 ≤ Int32.toInt r7 ∧ TWR 2 q9 (q10.1 2) ∧ kR [2, 3, 4, 19, 21] q6 q9 ∧ KPD kd n q2 q10) := a2
  rcases a2 with ⟨b1, b2, b3, b4⟩ | ⟨b1, b2, b3, b4⟩
  · refine d2_lif (fun c => absurd (Int32.le_iff_toInt_le.mp c) (by omega)) (fun _ => ?_)
    refine d2_lB (c_refuse q9 r7) (fun r16 q18 c => ?_)
    obtain ⟨c1, c2, c3⟩ := c
    replace c1 : r16 = r7 := c1
    refine d2_rB (m_goodOr q10 r7) (fun r4 q7 g => d2_some ?_)
    obtain ⟨g1, g2, g3⟩ := g
    replace g1 : r4 = r7 := g1
    refine ⟨c1.trans g1.symm, MV.rf hs hh0 (fun j k k1 k2 k3 k4 k5 k6 => ?_) ?_ (fun j k k1 k2 k3 => ?_) ?_⟩
    · show q18.1 j k = q3.1 j k
      rw [c2 j k k3 k4, b3.1 j k k1 k2 k5, w3.1 j k k6 (fun y => k2 y.1)]
    · show q18.2 = q3.2
      rw [c3, b3.2.1, w3.2]
    · show q7.1 j k = q2.1 j k
      rw [g2 j k k1 (fun y => k3 ⟨y.1, Or.inl y.2⟩), b4.1 j k k2 (fun y => k3 ⟨y.1, Or.inr y.2⟩)]
    · show q7.2 = q2.2
      rw [g3, b4.2]
  · refine d2_lif (fun _ => ?_) (fun c => absurd (Int32.le_iff_toInt_le.mpr (by omega)) c)
    have e10 : Int32.toInt (q9.1 10 2) = (n : Int) := by rw [b3.1 10 2 (by decide) (by decide), w3.1 10 2 (by decide) (by decide)]; exact h2
    refine d2_lV (c_keep q9 kd r1 e10 h1) (fun q12 y => ?_)
    obtain ⟨y1, y2, y3⟩ := y
    refine d2_lB (c_accept q12 r7) (fun r13 q15 c => ?_)
    obtain ⟨c1, c2⟩ := c
    replace c1 : r13 = r7 := c1
    replace c2 : q15 = cui q12 0 18 0 := c2
    refine d2_rB (m_goodOr q10 r7) (fun r4 q7 g => d2_some ?_)
    obtain ⟨g1, g2, g3⟩ := g
    replace g1 : r4 = r7 := g1
    obtain ⟨p1, p2, p3, p4, p5⟩ := b4
    have kk : ∀ j k : Nat, j ∉ [2, 3, 4, 19, 21] → ¬ j = 12 → ¬ (j = 0 ∧ k = 18) → ¬ (j = 18 ∧ k = 1) → ¬ (j = 10 ∧ k = 2) → ¬ (j = 20 ∧ k = 2) → q15.1 j k = q3.1 j k := fun j k k1 k2 k3 k4 k5 k6 => by rw [c2, cui_x k3, y3.1 j k k2 k5, b3.1 j k k1 k4, w3.1 j k k6 (fun y => k1 (by rw [y.1]; decide))]
    have kt : ∀ k : Nat, q15.1 2 k = q9.1 2 k ∧ q15.1 3 k = q9.1 3 k ∧ q15.1 4 k = q9.1 4 k := fun k => by
      rw [c2, cui_o (by decide), cui_o (by decide), cui_o (by decide)]
      exact ⟨y3.1 2 k (by decide) (by omega), y3.1 3 k (by decide) (by omega), y3.1 4 k (by decide) (by omega)⟩
    have kx : q15.2.2 = q3.2.2 := by rw [c2]; show q12.2.2 = _; rw [y3.2.2, b3.2.1, w3.2]
    have m14 : ∀ k : Nat, 14 ≤ k → q7.1 2 k = q2.1 2 k := fun k hk => by rw [g2 2 k (by decide) (by omega)]; exact p4 k hk
    have m2 : ∀ k : Nat, q7.1 2 k = q10.1 2 k := fun k => g2 2 k (by decide) (by omega)
    refine ⟨c1.trans g1.symm, ?_, ?_, fun j k k1 k2 k3 k4 k5 => ?_, fun j hj => ?_, kx, fun j k k1 k2 => ?_, m14, ?_⟩
    · refine hs.mv ?_ (fun k => kk 1 k (by decide) (by decide) (by omega) (by omega) (by omega) (by omega)) (fun k => kk 5 k (by decide) (by decide) (by omega) (by omega) (by omega) (by omega)) (fun k => kk 6 k (by decide) (by decide) (by omega) (by omega) (by omega) (by omega)) (fun k => kk 7 k (by decide) (by decide) (by omega) (by omega) (by omega) (by omega)) (Pfx.eq kx) m14
      exact b2.q (fun k => (kt k).1) (fun k => (kt k).2.1) (fun k => (kt k).2.2) (fun k _ => m2 k)
    · have e11 : q9.2.1 11 = q3.2.1 11 := by rw [b3.2.1, w3.2]
      have e12 : ∀ k : Nat, q9.1 12 k = q3.1 12 k := fun k => by rw [b3.1 12 k (by decide) (by omega), w3.1 12 k (by omega) (by omega)]
      have f12 : q9.1 12 = q3.1 12 := funext e12
      have z15 : q15.2 = q12.2 := by rw [c2]; rfl
      have o10 : ∀ k : Nat, q15.1 10 k = q12.1 10 k := fun k => by rw [c2, cui_o (by decide)]
      have o12 : ∀ k : Nat, q15.1 12 k = q12.1 12 k := fun k => by rw [c2, cui_o (by decide)]
      refine jh_keep (q := q3) (q2 := q2) (x := r1) (kd := kd) (n := n) h1 h4 (HI_pk kd hT hs.1 z2) (by rw [o10]; exact y1) (fun i hi => ?_) ?_ (fun i k hi hk => ?_) (m14 29 (by decide))
      · rw [z15, o12, ← e11, ← f12]; exact y2 i hi
      · rw [g2 0 32 (by decide) (by decide)]; exact p1
      · rw [g2 14 _ (by decide) (by omega)]; exact p2 i k hi hk
    · simp only [List.mem_cons, List.not_mem_nil, or_false, not_or] at k1
      exact kk j k (by simp only [List.mem_cons, List.not_mem_nil, or_false, not_or]; exact ⟨k1.1, k1.2.1, k1.2.2.1, k1.2.2.2.2.1, k1.2.2.2.2.2.1⟩) k1.2.2.2.1 k2 k3 k4 k5
    · show q15.2.1 j = q3.2.1 j
      rw [c2]
      show q12.2.1 j = _
      rw [y3.2.1 j hj, b3.2.1, w3.2]
    · simp only [List.mem_cons, List.not_mem_nil, or_false, not_or] at k1
      show q7.1 j k = q2.1 j k
      rw [g2 j k k1.1 (fun y => k2 ⟨y.1, Or.inl y.2⟩), p3 j k k1.2.1 k1.2.2.1 k1.2.2.2.1 k1.2.2.2.2 (fun y => k2 ⟨y.1, Or.inr (Or.inl y.2)⟩) (fun y => k2 ⟨y.1, Or.inr (Or.inr y.2)⟩)]
    · show q7.2 = q2.2
      rw [g3, p5]
theorem d2_lid {α β : Type} {x : Option (Int32 × α)} {y : Option β} {P : Int32 × α → β → Prop} (h : d2 x y P) : d2 (dB x (fun r q => some (r, q))) y P := by
  intro a b e1 e2
  obtain ⟨c, d, e3, e4⟩ := dB_some e1
  cases e4
  exact h (c, d) b e3 e2
theorem sf_turn {q : dK} {q2 : dS} (p : Int32) (hT : TC q) (hT2 : TS q2) (hs : SRl 1 2 q (q2.1 2)) (hh : HRl q q2) : d2 (zX9_turn_s0 q p) (zX10_turn q2 p) (fun o o2 => o.1 = o2.1 ∧ MV q q2 o.2 o2.2) := by
  unfold zX9_turn_s0 zX10_turn
  refine d2_lid (sf_move 0 p hT hT2 hs hh (fun n q6 t1 t2 t3 t4 t5 t6 => ?_))
  unfold zX8_act_s2_s20
  rw [if_pos rfl]
  exact d2_lid (ja_turn p t1 t2 t3 t4 t5 t6)
theorem sf_right {q : dK} {q2 : dS} (p : Int32) (hT : TC q) (hT2 : TS q2) (hs : SRl 1 2 q (q2.1 2)) (hh : HRl q q2) : d2 (zX9_right_s0 q p) (zX10_right q2 p) (fun o o2 => o.1 = o2.1 ∧ MV q q2 o.2 o2.2) := by
  unfold zX9_right_s0 zX10_right
  refine d2_lid (sf_move 1 p hT hT2 hs hh (fun n q6 t1 t2 t3 t4 t5 t6 => ?_))
  unfold zX8_act_s2_s20
  rw [if_neg (by decide), if_pos rfl]
  exact d2_lid (ja_right p t1 t3 t5 t6)
theorem sf_swap {q : dK} {q2 : dS} (p : Int32) (hT : TC q) (hT2 : TS q2) (hs : SRl 1 2 q (q2.1 2)) (hh : HRl q q2) : d2 (zX9_swap_s0 q p) (zX10_swap q2 p) (fun o o2 => o.1 = o2.1 ∧ MV q q2 o.2 o2.2) := by
  unfold zX9_swap_s0 zX10_swap
  refine d2_lid (sf_move 2 p hT hT2 hs hh (fun n q6 t1 t2 t3 t4 t5 t6 => ?_))
  unfold zX8_act_s2_s20
  rw [if_neg (by decide), if_neg (by decide), if_pos rfl]
  exact d2_lid (ja_swap p t1 t3 t5 t6)
theorem sf_pass {q : dK} {q2 : dS} (hT : TC q) (hT2 : TS q2) (hs : SRl 1 2 q (q2.1 2)) (hh : HRl q q2) : d2 (zX9_pass_s0 q) (zX10_pass q2) (fun o o2 => o.1 = o2.1 ∧ MV q q2 o.2 o2.2) := by
  unfold zX9_pass_s0 zX10_pass
  have hy : Int32.toInt (q2.1 2 13) ≤ 999 := (hT2.1 2 13).2
  refine d2_lid (sf_move 3 0 hT hT2 hs hh (fun n q6 t1 t2 t3 t4 t5 t6 => ?_))
  unfold zX8_act_s2_s20
  rw [if_neg (by decide), if_neg (by decide), if_neg (by decide), if_pos rfl]
  exact d2_lid (ja_pass t1 t2 t3 t4 hy t5 t6)
theorem c_unp2 (q : dK) (p1 : Int64) : dAll (zX8_unpack_s2 q p1) (fun o => o.2 = q.2) := by
  unfold zX8_unpack_s2
  refine dA_L (fun q1 e1 => dA_L (fun v2 _ => dA_L (fun q3 e3 => ?_)))
  have h3 : q3.2 = q.2 := by rw [e3, e1]; rfl
  unfold zX8_unpack_s2_31
  refine dA_fix (fun (a : dK × Int64 × Int32) => a.1.2 = q.2) ?_ dF _ h3
  intro k hk a ha
  obtain ⟨qa, x3, x5⟩ := a
  replace ha : qa.2 = q.2 := ha
  show dAll (zX8_unpack_s2_31b (fun q x3 x5 => k (q, x3, x5)) qa x3 x5) _
  unfold zX8_unpack_s2_31b
  refine dA_if (fun _ => dA_L (fun q8 e8 => dA_some ?_)) (fun _ => dA_G (fun _ => dA_L (fun q5 e5 => dA_G (fun _ => dA_L (fun q7 e7 => hk (q7, _, _) ?_)))))
  · show q8.2 = _
    rw [e8]; exact ha
  · show q7.2 = _
    rw [e7]
    show q5.2 = _
    rw [e5]; exact ha
/-- the last of them undone -/
theorem sf_undo {q : dK} {q2 : dS} (hT : TC q) (hs : SRl 1 2 q (q2.1 2)) (hh : HRl q q2) : d2 (zX9_undo_s0 q) (zX10_undo q2) (fun o o2 => o.1 = o2.1 ∧ MV q q2 o.2 o2.2) := by
  have d0 : Int32.toInt 0 = 0 := by decide
  have d1 : Int32.toInt 1 = 1 := by decide
  have d15 : Int32.toInt 15 = 15 := by decide
  have hh0 := hh
  obtain ⟨n, h1, h2, h3, h4⟩ := hh
  unfold zX9_undo_s0 zX10_undo
  refine d2_lif (fun c => ?_) (fun c => ?_)
  · have c1 := Int32.lt_iff_toInt_lt.mp c
    refine d2_rif (fun w => by rw [w] at h3; omega) (fun _ => ?_)
    refine d2_lL (fun q1 e1 => ?_)
    have e10 : Int32.toInt (q1.1 10 2) = (n : Int) - 1 := by rw [e1, cui_e]; exact ti_sub h2 d1 (by omega) (by omega)
    have n10 : Int32.toNatClampNeg (q1.1 10 2) = n - 1 := by have z := cl_eq (i := q1.1 10 2) (by omega); omega
    have l1 : q1.2 = q.2 := by rw [e1]; rfl
    rw [n10]
    have hI := h4 (n - 1) (by omega)
    refine d2_lG (fun _ => d2_lL (fun v3 e3 => ?_))
    rw [l1] at e3
    have hp0 : 0 ≤ v3.toInt := by rw [e3]; exact (hT.2.2.2.1 (n - 1)).1
    have ts : Int32.toInt ((q.1 10 2) - 1 : Int32) = (n : Int) - 1 := ti_sub h2 d1 (by omega) (by omega)
    have hT1 : TC q1 := by rw [e1]; exact tc_set hT (by decide) (by show (0 : Int) ≤ _; omega) (by show _ ≤ (16 : Int); omega)
    refine d2_lV (dA_and (dA_of (ok2_X8_unpack_s2 q1 v3 hp0)) (dA_and (c_unp2 q1 v3) (dA_of (ok_X8_unpack_s2 q1 v3 hT1 hp0)))) (fun q6 w => ?_)
    obtain ⟨w1, w4, w2, w3⟩ := w
    have f10 : q6.1 10 2 = q1.1 10 2 := w3.1 10 2 (by decide) (by decide)
    rw [f10, n10]
    refine d2_lG (fun _ => d2_lL (fun v8 e8 => d2_lB (c_accept q6 v8) (fun r9 q11 a => ?_)))
    obtain ⟨a1, a2⟩ := a
    replace a1 : r9 = v8 := a1
    replace a2 : q11 = cui q6 0 18 0 := a2
    refine d2_rL (fun o1 g1 => ?_)
    have m32 : Int32.toInt (o1.1 0 32) = (n : Int) - 1 := by rw [g1, dui_e]; exact ti_sub h3 d1 (by omega) (by omega)
    have m15 : Int32.toInt (15 * (o1.1 0 32) : Int32) = 15 * ((n - 1 : Nat) : Int) := by rw [ti_mul d15 m32 (by omega) (by omega)]; omega
    intro x b ex eb
    cases ex
    obtain ⟨y1, y2, y3, y4⟩ := m_undo34 o1 (15 * (o1.1 0 32)) (n := n - 1) (by omega) m15 b eb
    have o14 : ∀ k : Nat, o1.1 14 k = q2.1 14 k := fun k => by rw [g1, dui_o (by decide)]
    have o2 : ∀ k : Nat, o1.1 2 k = q2.1 2 k := fun k => by rw [g1, dui_o (by decide)]
    have m14 : ∀ k : Nat, 14 ≤ k → b.2.1 2 k = q2.1 2 k := fun k hk => by rw [y3 2 k (by omega) (by omega)]; exact o2 k
    have kx : q11.2 = q.2 := by rw [a2]; show q6.2 = _; rw [w4, l1]
    have kk : ∀ j k : Nat, ¬ j = 2 → ¬ j = 3 → ¬ j = 4 → ¬ (j = 0 ∧ k = 18) → ¬ (j = 10 ∧ k = 2) → q11.1 j k = q.1 j k := by
      intro j k k2 k3 k4 k5 k6
      have hF : (j, k) ∉ [(2, 2), (2, 3), (2, 4)] := by
        simp only [List.mem_cons, List.not_mem_nil, or_false, not_or, Prod.mk.injEq]
        omega
      have hS : j ∉ [3, 4] := by
        simp only [List.mem_cons, List.not_mem_nil, or_false, not_or]
        exact ⟨k3, k4⟩
      rw [a2, cui_x k5, w3.1 j k hS hF, e1, cui_x k6]
    refine ⟨?_, hs.mv ?_ (fun k => kk 1 k (by decide) (by decide) (by decide) (by omega) (by omega)) (fun k => kk 5 k (by decide) (by decide) (by decide) (by omega) (by omega)) (fun k => kk 6 k (by decide) (by decide) (by decide) (by omega) (by omega)) (fun k => kk 7 k (by decide) (by decide) (by decide) (by omega) (by omega)) (Pfx.eq (congrArg Prod.snd kx)) m14, ⟨n - 1, by omega, ?_, ?_, fun i hi => ?_⟩, fun j k k1 k2 _ k4 _ => ?_, fun j _ => congrFun (congrArg Prod.fst kx) j, congrArg Prod.snd kx, fun j k k1 k2 => ?_, m14, ?_⟩
    · show r9 = b.1
      rw [a1, e8, w3.1 12 (n - 1) (by decide) (by simp), e1, cui_o (by decide), y1, o14]
      exact hI.2
    · refine TWR_a.mpr ?_
      have ea : aT 2 q11 = aT 2 q6 := by
        unfold aT
        rw [a2, cui_o (by decide), cui_o (by decide), cui_o (by decide)]
      rw [ea, w1, e3, hI.1, m14 29 (by decide)]
      refine Prod.ext rfl (Prod.ext (i6_e (fun i hi => ?_)) (Prod.ext (i6_e (g := fun k => b.2.1 2 (6 + k)) (fun i hi => ?_)) (Prod.ext ?_ ?_)))
      · show Int32.toInt (q2.1 14 (15 * (n - 1) + i)) = Int32.toInt (b.2.1 2 i)
        rw [y2 i (by omega), o14]
      · show Int32.toInt (q2.1 14 (15 * (n - 1) + (6 + i))) = Int32.toInt (b.2.1 2 (6 + i))
        rw [y2 (6 + i) (by omega), o14]
      · show Int32.toInt (q2.1 14 (15 * (n - 1) + 12)) = Int32.toInt (b.2.1 2 12)
        rw [y2 12 (by decide), o14]
      · show Int32.toInt (q2.1 14 (15 * (n - 1) + 13)) = Int32.toInt (b.2.1 2 13)
        rw [y2 13 (by decide), o14]
    · show Int32.toInt (q11.1 10 2) = _
      rw [a2, cui_o (by decide), f10, e10]; omega
    · show Int32.toInt (b.2.1 0 32) = _
      rw [y3 0 32 (by omega) (by omega), m32]; omega
    · show HI (q11.2.1 11 i) (q11.1 12 i) (fun k => b.2.1 14 (15 * i + k)) (b.2.1 2 29)
      rw [kx, kk 12 i (by decide) (by decide) (by decide) (by omega) (by omega)]
      exact (h4 i (by omega)).c (fun k _ => by rw [y3 14 _ (by omega) (by omega)]; exact o14 _) (m14 29 (by decide))
    · simp only [List.mem_cons, List.not_mem_nil, or_false, not_or] at k1
      exact kk j k k1.1 k1.2.1 k1.2.2.1 k2 k4
    · simp only [List.mem_cons, List.not_mem_nil, or_false, not_or] at k1
      show b.2.1 j k = q2.1 j k
      rw [y3 j k (fun y => k1.2.1 y.1) (fun y => k2 ⟨y.1, Or.inl y.2⟩), g1]
      by_cases c0 : j = 0
      · rw [c0, dui_n (fun y => k2 ⟨c0, Or.inr (Or.inr y)⟩)]
      · rw [dui_o c0]
    · show b.2.2 = q2.2
      rw [y4, g1]; rfl
  · have c1 : ¬ Int32.toInt 0 < Int32.toInt (q.1 10 2) := fun z => c (Int32.lt_iff_toInt_lt.mpr z)
    refine d2_rif (fun _ => ?_) (fun w => absurd (Int32.toInt_inj.mp (show Int32.toInt (q2.1 0 32) = Int32.toInt 0 by omega)) w)
    refine d2_lB (c_refuse q (-3)) (fun r12 q14 y => d2_rB (m_refuses q2 (-3)) (fun r2 q4 z => d2_some ⟨?_, ?_⟩))
    · exact y.1.trans z.1.symm
    · obtain ⟨-, y2, y3⟩ := y
      obtain ⟨-, z2, z3⟩ := z
      exact MV.rf hs hh0 (fun j k _ _ k3 k4 _ _ => y2 j k k3 k4) y3 (fun j k k1 _ k3 => z2 j k k1 (fun y => k3 ⟨y.1, Or.inl y.2⟩)) z3
