section R9
variable {B : Nat → Int} {n T : Nat} {ps es : Nat → Nat} {cs vs : Nat → Int} {oo : Int}
theorem gm_if (q : dS) {f : Int} (h : MF q f) : dAll (dB (zX10_takes0 q 4) (fun r1 q3 => if r1 = 0 then some q3 else dV (zX10_readTest 10 q3 0) (fun q6 => some q6))) (fun o => MF o f) := by
  refine dA_B (m_takesF q 4 h) (fun r u z => ?_)
  obtain ⟨z1, z2⟩ := z
  replace z2 : u = q := z2
  subst z2
  exact dA_if (fun _ => dA_some h) (fun _ => dA_V (g_testN 10 u 0 h) (fun o w => dA_some w))
theorem r_if (hK : TKS B n T ps es cs vs) (hoo : oo = 0 ∨ oo = 1) {m : Nat} (q : dK) (q2 : dS) (h : RR B n T ps es cs vs oo m (Int32.toInt 0) q q2) : d2 (zX4_readClause_s24_103 q) (dB (zX10_takes0 q2 4) (fun r1 q3 => if r1 = 0 then some q3 else dV (zX10_readTest 10 q3 0) (fun q6 => some q6))) (RR B n T ps es cs vs oo m (Int32.toInt 0)) := by
  have d0 : Int32.toInt 0 = 0 := by decide
  have d4 : Int32.toInt 4 = 4 := by decide
  unfold zX4_readClause_s24_103 zX4_readClause_s24_135
  rcases h with ⟨t, l, hm, h1, h2, h3, h4, h5, h6⟩ | ⟨f, h1, h2⟩
  · refine d2_lif (fun _ => d2_lB (c_wd7 hK q h1 h2) (fun r1 q3 w => ?_)) (fun c => absurd h2.1 c)
    obtain ⟨w1, w2⟩ := w
    replace w1 : q3 = q := w1
    replace w2 : (Int32.toInt r1 = 1 ∧ cs t = 4) ∨ (Int32.toInt r1 = 0 ∧ ¬ cs t = 4) := w2
    subst w1
    refine d2_rB (m_takes hK q2 4 h3 h4 (by decide)) (fun r u z => ?_)
    replace z : (Int32.toInt r = 1 ∧ cs t = Int32.toInt 4 ∧ t < T ∧ SM n T ps cs vs oo u ∧ MA T u (t + 1) l) ∨ (Int32.toInt r = 0 ∧ ¬ cs t = Int32.toInt 4 ∧ u = q2) := z
    rw [d4] at z
    rcases z with ⟨z1, z2, z3, z4, z5⟩ | ⟨z1, z2, z3⟩
    · refine d2_rif (fun c => by rw [c] at z1; omega) (fun _ => d2_lif (fun c => by rw [c] at w2; omega) (fun _ => d2_lV (c_step hK q3 h1 h2 z3) (fun q6 v => ?_)))
      refine d2_VV (r_testN hK hoo 10 10 m q6 u 0 (by decide) (by decide) (Or.inl ⟨t + 1, l, by omega, v.1, v.2, z4, z5, h5, h6⟩)) (fun q9 u2 R => ?_)
      exact d2_lG (fun _ => d2_lV (c_endTest q9) (fun q13 cc => d2_some (R.s cc)))
    · subst z3
      refine d2_rif (fun _ => d2_lif (fun _ => d2_some (Or.inl ⟨t, l, hm, h1, h2, h3, h4, h5, h6⟩)) (fun c => ?_)) (fun c => absurd (Int32.toInt_inj.mp (z1.trans d0.symm)) c)
      rcases w2 with w2 | w2
      · exact absurd w2.2 z2
      · exact absurd (Int32.toInt_inj.mp (w2.1.trans d0.symm)) c
  · refine d2_lif (fun c => absurd c (i32_ne h1.1 h1.2)) (fun _ => ?_)
    exact d2_of (dA_some h1 : dAll (some q) (fun o => CF o f)) (gm_if q2 h2) (fun a b ha hb => Or.inr ⟨f, ha, hb⟩)
theorem r_times (hK : TKS B n T ps es cs vs) {m : Nat} {d : Int} {q : dK} {q2 : dS} (h : RR B n T ps es cs vs oo m d q q2) : d2 (zX4_readTimes_s24 q) (zX10_mustNumber q2 1 20) (RR B n T ps es cs vs oo m d) := by
  have d0 : Int32.toInt 0 = 0 := by decide
  have d1 : Int32.toInt 1 = 1 := by decide
  have d2' : Int32.toInt 2 = 2 := by decide
  have d20 : Int32.toInt 20 = 20 := by decide
  rcases h with ⟨t, l, hm, h1, h2, h3, h4, h5, h6⟩ | ⟨f, h1, h2⟩
  · obtain ⟨k1, k2, k3⟩ := tk_num hK h2
    have hl : dAll (zX4_readTimes_s24 q) (fun o => (cs t = 50 ∧ 1 ≤ vs t ∧ vs t ≤ 20 ∧ SC B n oo o ∧ CQ B n T ps es o (t + 1) d l) ∨ (¬ (cs t = 50 ∧ 1 ≤ vs t ∧ vs t ≤ 20) ∧ CF o ((stP n T ps t : Nat) : Int))) := by
      have h25 : ¬ (cs t = 50 ∧ 1 ≤ vs t ∧ vs t ≤ 20) → dAll (zX4_readTimes_s24_25 q) (fun o => (cs t = 50 ∧ 1 ≤ vs t ∧ vs t ≤ 20 ∧ SC B n oo o ∧ CQ B n T ps es o (t + 1) d l) ∨ (¬ (cs t = 50 ∧ 1 ≤ vs t ∧ vs t ≤ 20) ∧ CF o ((stP n T ps t : Nat) : Int))) := by
        intro hn
        unfold zX4_readTimes_s24_25
        exact dA_V (c_fail q h2) (fun o w => dA_some (Or.inr ⟨hn, w⟩))
      unfold zX4_readTimes_s24
      refine dA_eq (fun _ c => dA_lt (fun c2 => h25 (fun z => ?_)) (fun c2 => dA_le (fun c3 => dA_G (fun _ => dA_V (c_times q _) (fun q4 w => ?_))) (fun c3 => h25 (fun z => ?_)))) (fun _ c => h25 (fun z => ?_))
      · obtain ⟨j1, j2, j3, j4⟩ := k3 z.1
        have := j3 (by omega)
        omega
      · obtain ⟨j1, j2, j3, j4⟩ := k3 (k1.mp (by omega))
        have hv : vs t ≤ 20 := (j2 20 (by decide)).mp (by omega)
        have := j3 (by omega)
        exact dA_V (c_step hK q4 (h1.s w) (h2.s w) j1) (fun o w2 => dA_some (Or.inl ⟨k1.mp (by omega), by omega, hv, w2.1, w2.2⟩))
      · obtain ⟨j1, j2, j3, j4⟩ := k3 z.1
        have := (j2 20 (by decide)).mpr z.2.2
        omega
      · exact c ((k1.mpr z.1).trans d2'.symm)
    refine d2_of hl (m_num hK q2 1 20 h3 h4) (fun a b ha hb => ?_)
    rw [d1, d20] at hb
    rcases ha with ha | ha
    · rcases hb with hb | hb
      · exact Or.inl ⟨t + 1, l, by omega, ha.2.2.2.1, ha.2.2.2.2, hb.2.2.2.2.1, hb.2.2.2.2.2, h5, h6⟩
      · exact absurd ⟨ha.1, ha.2.1, ha.2.2.1⟩ hb.1
    · rcases hb with hb | hb
      · exact absurd ⟨hb.1, hb.2.1, hb.2.2.1⟩ ha.1
      · exact Or.inr ⟨_, ha.2, hb.2⟩
  · have hl : dAll (zX4_readTimes_s24 q) (fun o => CF o f) := by
      unfold zX4_readTimes_s24 zX4_readTimes_s24_25
      have hf : dAll (dV (zX4_fail_s24 q) (fun q3 => some q3)) (fun o => CF o f) := dA_V (c_failF q h1) (fun o w => dA_some w)
      exact dA_if (fun _ => dA_if (fun _ => hf) (fun _ => dA_if (fun _ => dA_G (fun _ => dA_V (c_times q _) (fun q4 w => dA_V (c_stepF q4 (h1.s w)) (fun o w2 => dA_some w2)))) (fun _ => hf))) (fun _ => hf)
    exact d2_of hl (g_num q2 1 20 h2) (fun a b ha hb => Or.inr ⟨f, ha, hb⟩)
theorem f_71 (q : dK) {f : Int} (h1 : CF q f) : dAll (zX4_readClause_s24_71 q) (fun o => CF o f) := by
  have hl : dAll (zX4_readClause_s24_103 q) (fun o => CF o f) := by
    unfold zX4_readClause_s24_103 zX4_readClause_s24_135
    exact dA_if (fun c => absurd c (i32_ne h1.1 h1.2)) (fun _ => dA_some h1)
  unfold zX4_readClause_s24_71
  exact dA_if (fun _ => hl) (fun _ => dA_if (fun c => absurd c (i32_ne h1.1 h1.2)) (fun _ => hl))
/-- behind an order's sum -/
theorem r_order41 (hK : TKS B n T ps es cs vs) {m : Nat} (q : dK) (q2 : dS) (ho : oo = 1) (h : RR B n T ps es cs vs oo m (Int32.toInt 0) q q2) : d2 (zX4_readClause_s24_71 q) (zX10_readOrder_41 q2) (RR B n T ps es cs vs oo m (Int32.toInt 0)) := by
  have d0 : Int32.toInt 0 = 0 := by decide
  have d26 : Int32.toInt 26 = 26 := by decide
  unfold zX10_readOrder_41 zX10_readOrder_57 zX10_readOrder_70
  rcases h with ⟨t, l, hm, h1, h2, h3, h4, h5, h6⟩ | ⟨f, h1, h2⟩
  · unfold zX4_readClause_s24_71
    have e2 := h1.2.2
    refine d2_lif (fun c => by rw [c] at e2; omega) (fun _ => d2_lif (fun _ => d2_lB (c_wd6 hK q h1 h2) (fun r1 q3 w => ?_)) (fun c => absurd h2.1 c))
    obtain ⟨w1, w2⟩ := w
    replace w1 : q3 = q := w1
    replace w2 : (Int32.toInt r1 = 1 ∧ cs t = 26) ∨ (Int32.toInt r1 = 0 ∧ ¬ cs t = 26) := w2
    subst w1
    refine d2_rB (m_takes hK q2 26 h3 h4 (by decide)) (fun r u z => ?_)
    replace z : (Int32.toInt r = 1 ∧ cs t = Int32.toInt 26 ∧ t < T ∧ SM n T ps cs vs oo u ∧ MA T u (t + 1) l) ∨ (Int32.toInt r = 0 ∧ ¬ cs t = Int32.toInt 26 ∧ u = q2) := z
    rw [d26] at z
    rcases z with ⟨z1, z2, z3, z4, z5⟩ | ⟨z1, z2, z3⟩
    · refine d2_rif (fun c => by rw [c] at z1; omega) (fun _ => d2_lif (fun c => by rw [c] at w2; omega) (fun _ => d2_lV (c_step hK q3 h1 h2 z3) (fun q6 v => ?_)))
      exact d2_VV (r_times hK (Or.inl ⟨t + 1, l, by omega, v.1, v.2, z4, z5, h5, h6⟩)) (fun q9 u2 R => r_if hK (Or.inr ho) q9 u2 R)
    · subst z3
      refine d2_rif (fun _ => d2_lif (fun _ => r_if hK (Or.inr ho) q3 u (Or.inl ⟨t, l, hm, h1, h2, h3, h4, h5, h6⟩)) (fun c => ?_)) (fun c => absurd (Int32.toInt_inj.mp (z1.trans d0.symm)) c)
      rcases w2 with w2 | w2
      · exact absurd w2.2 z2
      · exact absurd (Int32.toInt_inj.mp (w2.1.trans d0.symm)) c
  · have hl := f_71 q h1
    have hr : dAll (dB (zX10_takes0 q2 26) (fun r1 q3 => if r1 = 0 then dB (zX10_takes0 q3 4) (fun r1 q3 => if r1 = 0 then some q3 else dV (zX10_readTest 10 q3 0) (fun q6 => some q6)) else dV (zX10_mustNumber q3 1 20) (fun q6 => dB (zX10_takes0 q6 4) (fun r1 q3 => if r1 = 0 then some q3 else dV (zX10_readTest 10 q3 0) (fun q6 => some q6))))) (fun o => MF o f) := by
      refine dA_B (m_takesF q2 26 h2) (fun r u z => ?_)
      obtain ⟨z1, z2⟩ := z
      replace z2 : u = q2 := z2
      subst z2
      exact dA_if (fun _ => gm_if u h2) (fun _ => dA_V (g_num u 1 20 h2) (fun o w => gm_if o w))
    exact d2_of hl hr (fun a b ha hb => Or.inr ⟨f, ha, hb⟩)
theorem g_order41 (q2 : dS) {f : Int} (h2 : MF q2 f) : dAll (zX10_readOrder_41 q2) (fun o => MF o f) := by
  unfold zX10_readOrder_41 zX10_readOrder_57 zX10_readOrder_70
  refine dA_B (m_takesF q2 26 h2) (fun r u z => ?_)
  obtain ⟨z1, z2⟩ := z
  replace z2 : u = q2 := z2
  subst z2
  exact dA_if (fun _ => gm_if u h2) (fun _ => dA_V (g_num u 1 20 h2) (fun o w => gm_if o w))
/-- a clause's sum -/
theorem r_60 (hK : TKS B n T ps es cs vs) (hoo : oo = 0 ∨ oo = 1) {m : Nat} (q : dK) (q2 : dS) (h : RR B n T ps es cs vs oo m (Int32.toInt 0) q q2) {Y : dS → Option dS} (hY : ∀ (u : dK) (u2 : dS), RR B n T ps es cs vs oo m (Int32.toInt 0) u u2 → d2 (zX4_readClause_s24_71 u) (Y u2) (RR B n T ps es cs vs oo m (Int32.toInt 0))) : d2 (zX4_readClause_s24_60 q) (dV (zX10_readSum 10 q2 0) (fun q3 => Y q3)) (RR B n T ps es cs vs oo m (Int32.toInt 0)) := by
  unfold zX4_readClause_s24_60
  refine d2_VV (r_sumN hK hoo 10 10 m q q2 0 (by decide) (by decide) h) (fun q3 u R => ?_)
  exact d2_lG (fun _ => d2_lV (c_endSum q3) (fun q7 cc => hY q7 u (R.s cc)))
theorem r_law71 (hK : TKS B n T ps es cs vs) {m : Nat} (q : dK) (q2 : dS) (ho : oo = 0) (h : RR B n T ps es cs vs oo m (Int32.toInt 0) q q2) : d2 (zX4_readClause_s24_71 q) (zX10_readClause_29 q2) (RR B n T ps es cs vs oo m (Int32.toInt 0)) := by
  have d0 : Int32.toInt 0 = 0 := by decide
  unfold zX10_readClause_29 zX10_readClause_42
  rcases h with ⟨t, l, hm, h1, h2, h3, h4, h5, h6⟩ | ⟨f, h1, h2⟩
  · unfold zX4_readClause_s24_71
    have e2 := h1.2.2
    exact d2_lif (fun _ => r_if hK (Or.inl ho) q q2 (Or.inl ⟨t, l, hm, h1, h2, h3, h4, h5, h6⟩)) (fun c => absurd (Int32.toInt_inj.mp (show Int32.toInt (q.1 24 2) = Int32.toInt 0 by omega)) c)
  · exact d2_of (f_71 q h1) (gm_if q2 h2) (fun a b ha hb => Or.inr ⟨f, ha, hb⟩)
theorem d2_rid {α β : Type} {x : Option α} {y : Option β} {P : α → β → Prop} (h : d2 x y P) : d2 x (dV y (fun b => some b)) P := by
  intro a b e1 e2
  obtain ⟨c, e3, e4⟩ := dV_some e2
  cases e4
  exact h a _ e1 e3
theorem m_yes (hK : TKS B n T ps es cs vs) (q : dS) (p1 : Int32) {t : Nat} {l : Int} (hs : SM n T ps cs vs oo q) (h : MA T q t l) (hp : ¬ Int32.toInt p1 = 0) (hc : cs t = Int32.toInt p1) : dAll (zX10_takes0 q p1) (fun o => Int32.toInt o.1 = 1 ∧ SM n T ps cs vs oo o.2 ∧ MA T o.2 (t + 1) l) := by
  refine dA_mono (m_takes hK q p1 hs h hp) (fun o z => ?_)
  rcases z with z | z
  · exact ⟨z.1, z.2.2.2.1, z.2.2.2.2⟩
  · exact absurd hc z.2.1
theorem m_no (hK : TKS B n T ps es cs vs) (q : dS) (p1 : Int32) {t : Nat} {l : Int} (hs : SM n T ps cs vs oo q) (h : MA T q t l) (hp : ¬ Int32.toInt p1 = 0) (hc : ¬ cs t = Int32.toInt p1) : dAll (zX10_takes0 q p1) (fun o => Int32.toInt o.1 = 0 ∧ o.2 = q) := by
  refine dA_mono (m_takes hK q p1 hs h hp) (fun o z => ?_)
  rcases z with z | z
  · exact absurd z.2.1 hc
  · exact ⟨z.1, z.2.2⟩
theorem m_must1 (hK : TKS B n T ps es cs vs) (q : dS) (p1 : Int32) {t : Nat} {l : Int} (hs : SM n T ps cs vs oo q) (h : MA T q t l) (hp : ¬ Int32.toInt p1 = 0) (hc : cs t = Int32.toInt p1) : dAll (zX10_must q p1) (fun o => SM n T ps cs vs oo o ∧ MA T o (t + 1) l) := by
  unfold zX10_must zX10_must_12
  refine dA_B (m_yes hK q p1 hs h hp hc) (fun r u z => ?_)
  exact dA_if (fun c => by have y : Int32.toInt r = 1 := z.1; rw [c] at y; exact absurd y (by decide)) (fun _ => dA_some ⟨z.2.1, z.2.2⟩)
theorem m_must0 (hK : TKS B n T ps es cs vs) (q : dS) (p1 : Int32) {t : Nat} {l : Int} (hs : SM n T ps cs vs oo q) (h : MA T q t l) (hp : ¬ Int32.toInt p1 = 0) (hc : ¬ cs t = Int32.toInt p1) : dAll (zX10_must q p1) (fun o => MF o ((stP n T ps t : Nat) : Int)) := by
  unfold zX10_must zX10_must_12
  refine dA_B (m_no hK q p1 hs h hp hc) (fun r u z => ?_)
  obtain ⟨z1, z2⟩ := z
  replace z2 : u = q := z2
  subst z2
  exact dA_if (fun _ => dA_V (m_faults u hs h) (fun o w => dA_some w)) (fun c => absurd (Int32.toInt_inj.mp (z1.trans (by decide))) c)
theorem r_clause0 (hK : TKS B n T ps es cs vs) (ho : oo = 0) {m t : Nat} {l : Int} (q : dK) (q2 : dS) (hm : m ≤ t) (h1 : SC B n oo q) (h2 : CQ B n T ps es q t (Int32.toInt 0) l) (h3 : SM n T ps cs vs oo q2) (h4 : MA T q2 t l) (h5 : 0 ≤ l) (h6 : l ≤ 50) : d2 (zX4_readClause_s24_15 q) (zX10_readClause q2) (RR B n T ps es cs vs oo m (Int32.toInt 0)) := by
  have d0 : Int32.toInt 0 = 0 := by decide
  have d1 : Int32.toInt 1 = 1 := by decide
  have d2' : Int32.toInt 2 = 2 := by decide
  have d3 : Int32.toInt 3 = 3 := by decide
  have dm : Int32.toInt (-1) = -1 := by decide
  have e2 := h1.2.2
  unfold zX4_readClause_s24_15 zX10_readClause
  refine d2_lB (c_win1 hK q h1 h2) (fun r1 q3 w => ?_)
  obtain ⟨w1, w2⟩ := w
  replace w1 : q3 = q := w1
  replace w2 : (∃ j : Nat, j < 3 ∧ Int32.toInt r1 = (j : Int) ∧ cs t = ((wcd_1 j : Nat) : Int)) ∨ (Int32.toInt r1 = -1 ∧ ∀ j : Nat, j < 3 → ¬ cs t = ((wcd_1 j : Nat) : Int)) := w2
  subst w1
  rcases w2 with ⟨j, j1, j2, j3⟩ | ⟨w2, w3⟩
  · have hwc : ∀ j : Nat, j < 3 → wcd_1 j = j + 1 := by decide
    rw [hwc j j1] at j3
    have ht : t < T := cs_lt hK h4.2.1 (by omega)
    refine d2_lif (fun c => by rw [c] at j2; omega) (fun _ => d2_lG (fun _ => d2_lV (c_begin q3 r1) (fun q7 c7 => d2_lV (c_step hK q7 (h1.s c7) (h2.s c7) ht) (fun q10 v => ?_))))
    have e22 := v.1.2.2
    refine d2_lif (fun _ => ?_) (fun c => absurd (Int32.toInt_inj.mp (show Int32.toInt (q10.1 24 2) = Int32.toInt 0 by omega)) c)
    have hj : j = 0 ∨ j = 1 ∨ j = 2 := by omega
    rcases hj with e | e | e <;> subst e
    · refine d2_rB (m_yes hK q2 1 h3 h4 (by decide) (by rw [d1]; omega)) (fun r u z => d2_rif (fun c => by have y : Int32.toInt r = 1 := z.1; rw [c] at y; omega) (fun _ => d2_lif (fun _ => ?_) (fun c => absurd (Int32.toInt_inj.mp (j2.trans d0.symm)) c)))
      exact r_60 hK (Or.inl ho) q10 u (Or.inl ⟨t + 1, l, by omega, v.1, v.2, z.2.1, z.2.2, h5, h6⟩) (Y := fun q12 => zX10_readClause_29 q12) (fun a b R => r_law71 hK a b ho R)
    · refine d2_rB (m_no hK q2 1 h3 h4 (by decide) (by rw [d1]; omega)) (fun r u z => ?_)
      obtain ⟨z1, z2⟩ := z
      replace z2 : u = q2 := z2
      replace z1 : Int32.toInt r = 0 := z1
      subst z2
      refine d2_rif (fun _ => ?_) (fun c => absurd (Int32.toInt_inj.mp (z1.trans d0.symm)) c)
      refine d2_rB (m_yes hK u 2 h3 h4 (by decide) (by rw [d2']; omega)) (fun r u2 z => d2_rif (fun c => by have y : Int32.toInt r = 1 := z.1; rw [c] at y; omega) (fun _ => d2_lif (fun c => by rw [c] at j2; omega) (fun _ => ?_)))
      exact r_law71 hK q10 u2 ho (Or.inl ⟨t + 1, l, by omega, v.1, v.2, z.2.1, z.2.2, h5, h6⟩)
    · refine d2_rB (m_no hK q2 1 h3 h4 (by decide) (by rw [d1]; omega)) (fun r u z => ?_)
      obtain ⟨z1, z2⟩ := z
      replace z2 : u = q2 := z2
      replace z1 : Int32.toInt r = 0 := z1
      subst z2
      refine d2_rif (fun _ => ?_) (fun c => absurd (Int32.toInt_inj.mp (z1.trans d0.symm)) c)
      refine d2_rB (m_no hK u 2 h3 h4 (by decide) (by rw [d2']; omega)) (fun r u2 z => ?_)
      obtain ⟨y1, y2⟩ := z
      replace y2 : u2 = u := y2
      replace y1 : Int32.toInt r = 0 := y1
      subst y2
      refine d2_rif (fun _ => ?_) (fun c => absurd (Int32.toInt_inj.mp (y1.trans d0.symm)) c)
      refine d2_rV (m_must1 hK u2 3 h3 h4 (by decide) (by rw [d3]; omega)) (fun u3 z => d2_lif (fun c => by rw [c] at j2; omega) (fun _ => ?_))
      exact r_law71 hK q10 u3 ho (Or.inl ⟨t + 1, l, by omega, v.1, v.2, z.1, z.2, h5, h6⟩)
  · have n0 := w3 0 (by decide)
    have n1 := w3 1 (by decide)
    have n2 := w3 2 (by decide)
    have hwc : wcd_1 0 = 1 ∧ wcd_1 1 = 2 ∧ wcd_1 2 = 3 := by decide
    rw [hwc.1] at n0
    rw [hwc.2.1] at n1
    rw [hwc.2.2] at n2
    refine d2_lif (fun _ => ?_) (fun c => absurd (Int32.toInt_inj.mp (w2.trans dm.symm)) c)
    refine d2_rB (m_no hK q2 1 h3 h4 (by decide) (by rw [d1]; omega)) (fun r u z => ?_)
    obtain ⟨z1, z2⟩ := z
    replace z2 : u = q2 := z2
    replace z1 : Int32.toInt r = 0 := z1
    subst z2
    refine d2_rif (fun _ => ?_) (fun c => absurd (Int32.toInt_inj.mp (z1.trans d0.symm)) c)
    refine d2_rB (m_no hK u 2 h3 h4 (by decide) (by rw [d2']; omega)) (fun r u2 z => ?_)
    obtain ⟨y1, y2⟩ := z
    replace y2 : u2 = u := y2
    replace y1 : Int32.toInt r = 0 := y1
    subst y2
    refine d2_rif (fun _ => ?_) (fun c => absurd (Int32.toInt_inj.mp (y1.trans d0.symm)) c)
    refine d2_lV (c_fail q3 h2) (fun qf wf => d2_rV (m_must0 hK u2 3 h3 h4 (by decide) (by rw [d3]; omega)) (fun u3 w => ?_))
    unfold zX10_readClause_29 zX10_readClause_42
    exact d2_of (dA_some wf : dAll (some qf) (fun o => CF o ((stP n T ps t : Nat) : Int))) (gm_if u3 w) (fun a b ha hb => Or.inr ⟨_, ha, hb⟩)
theorem r_clause1 (hK : TKS B n T ps es cs vs) (ho : oo = 1) {m t : Nat} {l : Int} (q : dK) (q2 : dS) (hm : m ≤ t) (h1 : SC B n oo q) (h2 : CQ B n T ps es q t (Int32.toInt 0) l) (h3 : SM n T ps cs vs oo q2) (h4 : MA T q2 t l) (h5 : 0 ≤ l) (h6 : l ≤ 50) : d2 (zX4_readClause_s24 q) (zX10_readOrder q2) (RR B n T ps es cs vs oo m (Int32.toInt 0)) := by
  have d0 : Int32.toInt 0 = 0 := by decide
  have d3 : Int32.toInt 3 = 3 := by decide
  have d22 : Int32.toInt 22 = 22 := by decide
  have d23 : Int32.toInt 23 = 23 := by decide
  have d24 : Int32.toInt 24 = 24 := by decide
  have d25 : Int32.toInt 25 = 25 := by decide
  have dm : Int32.toInt (-1) = -1 := by decide
  have e2 := h1.2.2
  unfold zX4_readClause_s24 zX10_readOrder
  refine d2_lif (fun c => by rw [c] at e2; omega) (fun _ => ?_)
  refine d2_lB (c_win0 hK q h1 h2) (fun r1 q3 w => ?_)
  obtain ⟨w1, w2⟩ := w
  replace w1 : q3 = q := w1
  replace w2 : (∃ j : Nat, j < 4 ∧ Int32.toInt r1 = (j : Int) ∧ cs t = ((wcd_0 j : Nat) : Int)) ∨ (Int32.toInt r1 = -1 ∧ ∀ j : Nat, j < 4 → ¬ cs t = ((wcd_0 j : Nat) : Int)) := w2
  subst w1
  have hwc : ∀ j : Nat, j < 4 → wcd_0 j = j + 22 := by decide
  -- a code that is none of the first ones
  have skip : ∀ (X : Option dK) (P : dK → dS → Prop) (p : Int32) (Y1 Y2 : dS → Option dS), ¬ Int32.toInt p = 0 → ¬ cs t = Int32.toInt p → d2 X (Y1 q2) P → d2 X (dB (zX10_takes0 q2 p) (fun r u => if r = 0 then Y1 u else Y2 u)) P := by
    intro X P p Y1 Y2 hp hc hx
    refine d2_rB (m_no hK q2 p h3 h4 hp hc) (fun r u z => ?_)
    obtain ⟨z1, z2⟩ := z
    replace z2 : u = q2 := z2
    subst z2
    exact d2_rif (fun _ => hx) (fun c => absurd (Int32.toInt_inj.mp (z1.trans d0.symm)) c)
  rcases w2 with ⟨j, j1, j2, j3⟩ | ⟨w2, w3⟩
  · rw [hwc j j1] at j3
    have ht : t < T := cs_lt hK h4.2.1 (by omega)
    refine d2_lif (fun c => by rw [c] at j2; omega) (fun _ => d2_lG (fun _ => d2_lV (c_begin q3 r1) (fun q7 c7 => d2_lV (c_step hK q7 (h1.s c7) (h2.s c7) ht) (fun q10 v => ?_))))
    have e22 := v.1.2.2
    refine d2_lif (fun c => by rw [c] at e22; omega) (fun _ => ?_)
    have h27 : ∀ u : dS, SM n T ps cs vs oo u → MA T u (t + 1) l → d2 (zX4_readClause_s24_60 q10) (zX10_readOrder_27 u) (RR B n T ps es cs vs oo m (Int32.toInt 0)) := by
      intro u s1 s2
      unfold zX10_readOrder_27
      exact r_60 hK (Or.inr ho) q10 u (Or.inl ⟨t + 1, l, by omega, v.1, v.2, s1, s2, h5, h6⟩) (Y := fun q3 => zX10_readOrder_41 q3) (fun a b R => r_order41 hK a b ho R)
    have hj : j = 0 ∨ j = 1 ∨ j = 2 ∨ j = 3 := by omega
    rcases hj with e | e | e | e <;> subst e
    · refine d2_rB (m_yes hK q2 22 h3 h4 (by decide) (by rw [d22]; omega)) (fun r u z => d2_rif (fun c => by have y : Int32.toInt r = 1 := z.1; rw [c] at y; omega) (fun _ => d2_lif (fun c => by rw [c] at j2; omega) (fun _ => h27 u z.2.1 z.2.2)))
    · refine skip _ _ 22 _ _ (by decide) (by rw [d22]; omega) ?_
      refine d2_rB (m_yes hK q2 23 h3 h4 (by decide) (by rw [d23]; omega)) (fun r u z => d2_rif (fun c => by have y : Int32.toInt r = 1 := z.1; rw [c] at y; omega) (fun _ => d2_lif (fun c => by rw [c] at j2; omega) (fun _ => h27 u z.2.1 z.2.2)))
    · refine skip _ _ 22 _ _ (by decide) (by rw [d22]; omega) ?_
      refine skip _ _ 23 _ _ (by decide) (by rw [d23]; omega) ?_
      refine d2_rB (m_yes hK q2 24 h3 h4 (by decide) (by rw [d24]; omega)) (fun r u z => d2_rif (fun c => by have y : Int32.toInt r = 1 := z.1; rw [c] at y; omega) (fun _ => d2_lif (fun c => by rw [c] at j2; omega) (fun _ => h27 u z.2.1 z.2.2)))
    · refine skip _ _ 22 _ _ (by decide) (by rw [d22]; omega) ?_
      refine skip _ _ 23 _ _ (by decide) (by rw [d23]; omega) ?_
      refine skip _ _ 24 _ _ (by decide) (by rw [d24]; omega) ?_
      refine d2_rV (m_must1 hK q2 25 h3 h4 (by decide) (by rw [d25]; omega)) (fun u3 z => d2_lif (fun _ => ?_) (fun c => absurd (Int32.toInt_inj.mp (j2.trans d3.symm)) c))
      exact r_order41 hK q10 u3 ho (Or.inl ⟨t + 1, l, by omega, v.1, v.2, z.1, z.2, h5, h6⟩)
  · have n0 := w3 0 (by decide)
    have n1 := w3 1 (by decide)
    have n2 := w3 2 (by decide)
    have n3 := w3 3 (by decide)
    rw [hwc _ (by decide)] at n0 n1 n2 n3
    refine d2_lif (fun _ => ?_) (fun c => absurd (Int32.toInt_inj.mp (w2.trans dm.symm)) c)
    refine skip _ _ 22 _ _ (by decide) (by rw [d22]; omega) ?_
    refine skip _ _ 23 _ _ (by decide) (by rw [d23]; omega) ?_
    refine skip _ _ 24 _ _ (by decide) (by rw [d24]; omega) ?_
    refine d2_lV (c_fail q3 h2) (fun qf wf => d2_rV (m_must0 hK q2 25 h3 h4 (by decide) (by rw [d25]; omega)) (fun u3 w => ?_))
    exact d2_of (dA_some wf : dAll (some qf) (fun o => CF o ((stP n T ps t : Nat) : Int))) (g_order41 u3 w) (fun a b ha hb => Or.inr ⟨_, ha, hb⟩)
end R9
