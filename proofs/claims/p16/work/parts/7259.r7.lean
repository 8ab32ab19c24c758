section R7
variable {B : Nat → Int} {n T : Nat} {ps es : Nat → Nat} {cs vs : Nat → Int} {oo : Int}
/-- a token takes a byte at least -/
theorem tk_pos (hK : TKS B n T ps es cs vs) : ∀ t : Nat, t < T → t ≤ ps t ∧ ps t < n := by
  intro t
  induction t with
  | zero => intro h; exact ⟨Nat.zero_le _, (hK.2.2.2.1 0 h).2.1⟩
  | succ t ih =>
    intro h
    have h1 := ih (by omega)
    obtain ⟨-, k1, k2, -⟩ := hK.2.2.2.1 t (by omega)
    obtain ⟨j0, j1, -⟩ := hK.2.2.2.1 (t + 1) h
    have hpn : pn es (t + 1) = es t := by unfold pn; rw [if_neg (by omega), Nat.add_sub_cancel]
    rw [hpn] at j0
    have := j0.1
    rcases k2 with k2 | k2
    · omega
    · exact ⟨by omega, j1⟩
theorem RR.w {m m' : Nat} {d : Int} {q : dK} {q2 : dS} (h : RR B n T ps es cs vs oo m d q q2) (hm : m' ≤ m) : RR B n T ps es cs vs oo m' d q q2 := by
  rcases h with ⟨t, l, h0, h1⟩ | h
  · exact Or.inl ⟨t, l, by omega, h1⟩
  · exact Or.inr h
theorem RR.s {m : Nat} {d : Int} {q o : dK} {q2 : dS} (h : RR B n T ps es cs vs oo m d q q2) (k : CS q o) : RR B n T ps es cs vs oo m d o q2 := by
  rcases h with ⟨t, l, h0, h1, h2, h3⟩ | ⟨f, h1, h2⟩
  · exact Or.inl ⟨t, l, h0, h1.s k, h2.s k, h3⟩
  · exact Or.inr ⟨f, h1.s k, h2⟩
theorem gb_term {kS : dS → Int32 → Option dS} {k : dS → Int32 → Option dS} {f : Int} (qa : dS) (x1 : Int32) (ha : MF qa f) : dAll (zX10_readTerm_5b kS k qa x1) (fun o => MF o f) := by
  have d0 : Int32.toInt 0 = 0 := by decide
  unfold zX10_readTerm_5b
  refine dA_V (m_sign 42) (fun s0 _ => dA_B (m_takesF qa s0 ha) (fun r0 q0 z => ?_))
  obtain ⟨z1, z2⟩ := z
  replace z2 : q0 = qa := z2
  replace z1 : Int32.toInt r0 = 0 := z1
  subst z2
  refine dA_eq (fun _ _ => ?_) (fun _ c => absurd (z1.trans d0.symm) c)
  refine dA_V (m_sign 47) (fun s1 _ => dA_B (m_takesF q0 s1 ha) (fun r1 q1 z => ?_))
  obtain ⟨z1, z2⟩ := z
  replace z2 : q1 = q0 := z2
  replace z1 : Int32.toInt r1 = 0 := z1
  subst z2
  refine dA_eq (fun _ _ => ?_) (fun _ c => absurd (z1.trans d0.symm) c)
  refine dA_V (m_sign 37) (fun s2 _ => dA_B (m_takesF q1 s2 ha) (fun r2 q2 z => ?_))
  obtain ⟨z1, z2⟩ := z
  replace z2 : q2 = q1 := z2
  replace z1 : Int32.toInt r2 = 0 := z1
  subst z2
  exact dA_eq (fun _ _ => dA_some ha) (fun _ c => absurd (z1.trans d0.symm) c)
theorem rc_term (hK : TKS B n T ps es cs vs) {kS : dS → Int32 → Option dS} {k : dS → Int32 → Option dS} {X : Option dK} {P : dK → dS → Prop} (qa : dS) (x1 : Int32) {t : Nat} {l : Int} (h3 : SM n T ps cs vs oo qa) (h4 : MA T qa t l)
    (hsome : ∀ (q : dS) (u j : Nat), u = t + 1 → j < 3 → cs t = 100 + ([42, 47, 37] : List Int).getD j 0 → t < T → SM n T ps cs vs oo q → MA T q u l → d2 X (zX10_readTerm_41 kS k q x1) P) (hnone : ∀ q : dS, SM n T ps cs vs oo q → MA T q t l → (∀ j : Nat, j < 3 → ¬ cs t = 100 + ([42, 47, 37] : List Int).getD j 0) → d2 X (some q) P) : d2 X (zX10_readTerm_5b kS k qa x1) P := by
  have d0 : Int32.toInt 0 = 0 := by decide
  unfold zX10_readTerm_5b
  refine d2_rV (m_sign 42) (fun s0 f0 => d2_rB (m_takes hK qa s0 h3 h4 (by rw [f0]; decide)) (fun r0 q0 z => ?_))
  have g0 : Int32.toInt s0 = 142 := by rw [f0]; decide
  rw [g0] at z
  replace z : (Int32.toInt r0 = 1 ∧ cs t = 142 ∧ t < T ∧ SM n T ps cs vs oo q0 ∧ MA T q0 (t + 1) l) ∨ (Int32.toInt r0 = 0 ∧ ¬ cs t = 142 ∧ q0 = qa) := z
  rcases z with ⟨z1, z2, z3, z4, z5⟩ | ⟨z1, z2, z3⟩
  · exact d2_rif (fun c => by rw [c] at z1; omega) (fun _ => hsome q0 (t + 1) 0 rfl (by decide) z2 z3 z4 z5)
  · subst z3
    refine d2_rif (fun _ => ?_) (fun c => absurd (Int32.toInt_inj.mp (z1.trans d0.symm)) c)
    have k0 := z2
    refine d2_rV (m_sign 47) (fun s1 f1 => d2_rB (m_takes hK q0 s1 h3 h4 (by rw [f1]; decide)) (fun r1 q1 z => ?_))
    have g1 : Int32.toInt s1 = 147 := by rw [f1]; decide
    rw [g1] at z
    replace z : (Int32.toInt r1 = 1 ∧ cs t = 147 ∧ t < T ∧ SM n T ps cs vs oo q1 ∧ MA T q1 (t + 1) l) ∨ (Int32.toInt r1 = 0 ∧ ¬ cs t = 147 ∧ q1 = q0) := z
    rcases z with ⟨z1, z2, z3, z4, z5⟩ | ⟨z1, z2, z3⟩
    · exact d2_rif (fun c => by rw [c] at z1; omega) (fun _ => hsome q1 (t + 1) 1 rfl (by decide) z2 z3 z4 z5)
    · subst z3
      refine d2_rif (fun _ => ?_) (fun c => absurd (Int32.toInt_inj.mp (z1.trans d0.symm)) c)
      have k1 := z2
      refine d2_rV (m_sign 37) (fun s2 f2 => d2_rB (m_takes hK q1 s2 h3 h4 (by rw [f2]; decide)) (fun r2 q2 z => ?_))
      have g2 : Int32.toInt s2 = 137 := by rw [f2]; decide
      rw [g2] at z
      replace z : (Int32.toInt r2 = 1 ∧ cs t = 137 ∧ t < T ∧ SM n T ps cs vs oo q2 ∧ MA T q2 (t + 1) l) ∨ (Int32.toInt r2 = 0 ∧ ¬ cs t = 137 ∧ q2 = q1) := z
      rcases z with ⟨z1, z2, z3, z4, z5⟩ | ⟨z1, z2, z3⟩
      · exact d2_rif (fun c => by rw [c] at z1; omega) (fun _ => hsome q2 (t + 1) 2 rfl (by decide) z2 z3 z4 z5)
      · subst z3
        exact d2_rif (fun _ => hnone q2 h3 h4 (fun j hj => by
          have e : j = 0 ∨ j = 1 ∨ j = 2 := by omega
          rcases e with e | e | e <;> subst e <;> show ¬ cs t = 100 + _
          · exact k0
          · exact k1
          · exact z2
          )) (fun c => absurd (Int32.toInt_inj.mp (z1.trans d0.symm)) c)

theorem r_term (hK : TKS B n T ps es cs vs) (hoo : oo = 0 ∨ oo = 1) {kS : dK → Option dK} {kS2 : dS → Int32 → Option dS} (hk : ∀ (m : Nat) (q : dK) (q2 : dS) (p : Int32), 0 ≤ Int32.toInt p → Int32.toInt p ≤ 8 → RR B n T ps es cs vs oo m (Int32.toInt p) q q2 → d2 (kS q) (kS2 q2 p) (RR B n T ps es cs vs oo m (Int32.toInt p))) (hf : ∀ (f : Int) (q : dK), CF q f → dAll (kS q) (fun o => CF o f)) {m : Nat} (q : dK) (q2 : dS) (p1 : Int32) (hp0 : 0 ≤ Int32.toInt p1) (hp8 : Int32.toInt p1 ≤ 8) (h : RR B n T ps es cs vs oo m (Int32.toInt p1) q q2) :
    d2 (zX4_readTerm_s24 kS q) (zX10_readTerm kS2 q2 p1) (RR B n T ps es cs vs oo m (Int32.toInt p1)) := by
  have d0 : Int32.toInt 0 = 0 := by decide
  have d1 : Int32.toInt 1 = 1 := by decide
  have dm : Int32.toInt (-1) = -1 := by decide
  unfold zX4_readTerm_s24 zX10_readTerm
  refine d2_VV (r_part hK hoo hk hf q q2 p1 hp0 hp8 h) (fun q3 q4 R => ?_)
  unfold zX4_readTerm_s24_6 zX10_readTerm_5
  refine d2_fix (fun (a : dK × Int32) (a2 : dS × Int32) => a2.2 = p1 ∧ ∃ m' : Nat, m ≤ m' ∧ RR B n T ps es cs vs oo m' (Int32.toInt p1) a.1 a2.1 ∧ 0 ≤ Int32.toInt a.2 ∧ Int32.toInt a.2 ≤ (m' : Int)) ?_ dF dF _ _ ⟨rfl, m, Nat.le_refl _, R, by show 0 ≤ Int32.toInt 0; omega, by show Int32.toInt 0 ≤ _; omega⟩
  intro k k2 hkk a a2 ha
  obtain ⟨qa, x1⟩ := a
  obtain ⟨qb, x2⟩ := a2
  obtain ⟨a1, m', a3, a4, a5, a6⟩ := ha
  replace a1 : x2 = p1 := a1
  replace a4 : RR B n T ps es cs vs oo m' (Int32.toInt p1) qa qb := a4
  replace a5 : 0 ≤ Int32.toInt x1 := a5
  replace a6 : Int32.toInt x1 ≤ (m' : Int) := a6
  subst a1
  show d2 (zX4_readTerm_s24_6b kS (fun q x1 => k (q, x1)) qa x1) (zX10_readTerm_5b kS2 (fun q x1 => k2 (q, x1)) qb x2) _
  rcases a4 with ⟨t, l, hm, h1, h2, h3, h4, h5, h6⟩ | ⟨f, h1, h2⟩
  · refine rc_term hK qb x2 h3 h4 (fun q u j eu hj' hj ht s1 s2 => ?_) (fun q s1 s2 hn => ?_)
    · subst eu
      have hpos := tk_pos hK t ht
      unfold zX4_readTerm_s24_6b
      refine d2_lif (fun c => ?_) (fun _ => d2_lif (fun _ => ?_) (fun c => absurd h2.1 c))
      · have := Int32.le_iff_toInt_le.mp c
        have := h1.2.1
        omega
      · refine d2_lB (c_sgi4 hK qa 4 h1 h2 (by decide)) (fun r1 q5 w => ?_)
        obtain ⟨w1, w2⟩ := w
        replace w1 : q5 = qa := w1
        replace w2 : (∃ j : Nat, j < 3 ∧ Int32.toInt r1 = Int32.toInt 4 + (j : Int) ∧ cs t = 100 + ([42, 47, 37] : List Int).getD j 0) ∨ (Int32.toInt r1 = -1 ∧ ∀ j : Nat, j < 3 → ¬ cs t = 100 + ([42, 47, 37] : List Int).getD j 0) := w2
        subst w1
        rcases w2 with ⟨j2, w2, w3, w4⟩ | ⟨w2, w3⟩
        · have dfo : Int32.toInt 4 = 4 := by decide
          refine d2_lif (fun c => by rw [c] at w3; omega) (fun _ => ?_)
          unfold zX10_readTerm_41
          refine d2_lV (c_step hK q5 h1 h2 ht) (fun q6 v => ?_)
          refine d2_VV (r_part hK hoo hk hf (m := m' + 1) q6 q x2 hp0 hp8 (Or.inl ⟨t + 1, l, by omega, v.1, v.2, s1, s2, h5, h6⟩)) (fun q9 q10 R2 => ?_)
          refine d2_lG (fun _ => d2_lV (c_emit q9 _ _) (fun q13 cc => ?_))
          have t1 : Int32.toInt (x1 + 1) = Int32.toInt x1 + 1 := ti_add rfl d1 (by have := hK.1; omega) (by have := hK.1; omega)
          exact hkk (q13, x1 + 1) (q10, x2) ⟨rfl, m' + 1, by omega, R2.s cc, by show 0 ≤ Int32.toInt (x1 + 1); omega, by show Int32.toInt (x1 + 1) ≤ _; omega⟩
        · exact absurd hj (w3 j hj')
    · have R2 : RR B n T ps es cs vs oo m (Int32.toInt x2) qa q := Or.inl ⟨t, l, by omega, h1, h2, s1, s2, h5, h6⟩
      unfold zX4_readTerm_s24_6b zX4_readTerm_s24_59
      refine d2_lif (fun _ => d2_some R2) (fun _ => d2_lif (fun _ => ?_) (fun _ => d2_some R2))
      refine d2_lB (c_sgi4 hK qa 4 h1 h2 (by decide)) (fun r1 q5 w => ?_)
      obtain ⟨w1, w2⟩ := w
      replace w1 : q5 = qa := w1
      replace w2 : (∃ j : Nat, j < 3 ∧ Int32.toInt r1 = Int32.toInt 4 + (j : Int) ∧ cs t = 100 + ([42, 47, 37] : List Int).getD j 0) ∨ (Int32.toInt r1 = -1 ∧ ∀ j : Nat, j < 3 → ¬ cs t = 100 + ([42, 47, 37] : List Int).getD j 0) := w2
      subst w1
      rcases w2 with ⟨j2, w2, w3, w4⟩ | ⟨w2, w3⟩
      · exact absurd w4 (hn j2 w2)
      · exact d2_lif (fun _ => d2_some R2) (fun c => absurd (Int32.toInt_inj.mp (w2.trans dm.symm)) c)
  · have hl : dAll (zX4_readTerm_s24_6b kS (fun q x1 => k (q, x1)) qa x1) (fun o => CF o f) := by
      unfold zX4_readTerm_s24_6b zX4_readTerm_s24_59
      exact dA_if (fun _ => dA_some h1) (fun _ => dA_if (fun c => absurd c (i32_ne h1.1 h1.2)) (fun _ => dA_some h1))
    exact d2_of hl (gb_term qb x2 h2) (fun a b ha hb => Or.inr ⟨f, ha, hb⟩)
theorem gb_sum {kS : dS → Int32 → Option dS} {k : dS → Int32 → Option dS} {f : Int} (qa : dS) (x1 : Int32) (ha : MF qa f) : dAll (zX10_readSum_5b kS k qa x1) (fun o => MF o f) := by
  have d0 : Int32.toInt 0 = 0 := by decide
  unfold zX10_readSum_5b
  refine dA_V (m_sign 43) (fun s0 _ => dA_B (m_takesF qa s0 ha) (fun r0 q0 z => ?_))
  obtain ⟨z1, z2⟩ := z
  replace z2 : q0 = qa := z2
  replace z1 : Int32.toInt r0 = 0 := z1
  subst z2
  refine dA_eq (fun _ _ => ?_) (fun _ c => absurd (z1.trans d0.symm) c)
  refine dA_V (m_sign 45) (fun s1 _ => dA_B (m_takesF q0 s1 ha) (fun r1 q1 z => ?_))
  obtain ⟨z1, z2⟩ := z
  replace z2 : q1 = q0 := z2
  replace z1 : Int32.toInt r1 = 0 := z1
  subst z2
  exact dA_eq (fun _ _ => dA_some ha) (fun _ c => absurd (z1.trans d0.symm) c)
theorem rc_sum (hK : TKS B n T ps es cs vs) {kS : dS → Int32 → Option dS} {k : dS → Int32 → Option dS} {X : Option dK} {P : dK → dS → Prop} (qa : dS) (x1 : Int32) {t : Nat} {l : Int} (h3 : SM n T ps cs vs oo qa) (h4 : MA T qa t l)
    (hsome : ∀ (q : dS) (u j : Nat), u = t + 1 → j < 2 → cs t = 100 + ([43, 45] : List Int).getD j 0 → t < T → SM n T ps cs vs oo q → MA T q u l → d2 X (zX10_readSum_29 kS k q x1) P) (hnone : ∀ q : dS, SM n T ps cs vs oo q → MA T q t l → (∀ j : Nat, j < 2 → ¬ cs t = 100 + ([43, 45] : List Int).getD j 0) → d2 X (some q) P) : d2 X (zX10_readSum_5b kS k qa x1) P := by
  have d0 : Int32.toInt 0 = 0 := by decide
  unfold zX10_readSum_5b
  refine d2_rV (m_sign 43) (fun s0 f0 => d2_rB (m_takes hK qa s0 h3 h4 (by rw [f0]; decide)) (fun r0 q0 z => ?_))
  have g0 : Int32.toInt s0 = 143 := by rw [f0]; decide
  rw [g0] at z
  replace z : (Int32.toInt r0 = 1 ∧ cs t = 143 ∧ t < T ∧ SM n T ps cs vs oo q0 ∧ MA T q0 (t + 1) l) ∨ (Int32.toInt r0 = 0 ∧ ¬ cs t = 143 ∧ q0 = qa) := z
  rcases z with ⟨z1, z2, z3, z4, z5⟩ | ⟨z1, z2, z3⟩
  · exact d2_rif (fun c => by rw [c] at z1; omega) (fun _ => hsome q0 (t + 1) 0 rfl (by decide) z2 z3 z4 z5)
  · subst z3
    refine d2_rif (fun _ => ?_) (fun c => absurd (Int32.toInt_inj.mp (z1.trans d0.symm)) c)
    have k0 := z2
    refine d2_rV (m_sign 45) (fun s1 f1 => d2_rB (m_takes hK q0 s1 h3 h4 (by rw [f1]; decide)) (fun r1 q1 z => ?_))
    have g1 : Int32.toInt s1 = 145 := by rw [f1]; decide
    rw [g1] at z
    replace z : (Int32.toInt r1 = 1 ∧ cs t = 145 ∧ t < T ∧ SM n T ps cs vs oo q1 ∧ MA T q1 (t + 1) l) ∨ (Int32.toInt r1 = 0 ∧ ¬ cs t = 145 ∧ q1 = q0) := z
    rcases z with ⟨z1, z2, z3, z4, z5⟩ | ⟨z1, z2, z3⟩
    · exact d2_rif (fun c => by rw [c] at z1; omega) (fun _ => hsome q1 (t + 1) 1 rfl (by decide) z2 z3 z4 z5)
    · subst z3
      exact d2_rif (fun _ => hnone q1 h3 h4 (fun j hj => by
        have e : j = 0 ∨ j = 1 := by omega
        rcases e with e | e <;> subst e <;> show ¬ cs t = 100 + _
        · exact k0
        · exact z2
        )) (fun c => absurd (Int32.toInt_inj.mp (z1.trans d0.symm)) c)

theorem r_sum (hK : TKS B n T ps es cs vs) (hoo : oo = 0 ∨ oo = 1) {kS : dK → Option dK} {kS2 : dS → Int32 → Option dS} (hk : ∀ (m : Nat) (q : dK) (q2 : dS) (p : Int32), 0 ≤ Int32.toInt p → Int32.toInt p ≤ 8 → RR B n T ps es cs vs oo m (Int32.toInt p) q q2 → d2 (kS q) (kS2 q2 p) (RR B n T ps es cs vs oo m (Int32.toInt p))) (hf : ∀ (f : Int) (q : dK), CF q f → dAll (kS q) (fun o => CF o f)) {m : Nat} (q : dK) (q2 : dS) (p1 : Int32) (hp0 : 0 ≤ Int32.toInt p1) (hp8 : Int32.toInt p1 ≤ 8) (h : RR B n T ps es cs vs oo m (Int32.toInt p1) q q2) :
    d2 (zX4_readSum_s24_o kS q) (zX10_readSum_o kS2 q2 p1) (RR B n T ps es cs vs oo m (Int32.toInt p1)) := by
  have d0 : Int32.toInt 0 = 0 := by decide
  have d1 : Int32.toInt 1 = 1 := by decide
  have dm : Int32.toInt (-1) = -1 := by decide
  unfold zX4_readSum_s24_o zX10_readSum_o
  refine d2_VV (r_term hK hoo hk hf q q2 p1 hp0 hp8 h) (fun q3 q4 R => ?_)
  unfold zX4_readSum_s24_6 zX10_readSum_5
  refine d2_fix (fun (a : dK × Int32) (a2 : dS × Int32) => a2.2 = p1 ∧ ∃ m' : Nat, m ≤ m' ∧ RR B n T ps es cs vs oo m' (Int32.toInt p1) a.1 a2.1 ∧ 0 ≤ Int32.toInt a.2 ∧ Int32.toInt a.2 ≤ (m' : Int)) ?_ dF dF _ _ ⟨rfl, m, Nat.le_refl _, R, by show 0 ≤ Int32.toInt 0; omega, by show Int32.toInt 0 ≤ _; omega⟩
  intro k k2 hkk a a2 ha
  obtain ⟨qa, x1⟩ := a
  obtain ⟨qb, x2⟩ := a2
  obtain ⟨a1, m', a3, a4, a5, a6⟩ := ha
  replace a1 : x2 = p1 := a1
  replace a4 : RR B n T ps es cs vs oo m' (Int32.toInt p1) qa qb := a4
  replace a5 : 0 ≤ Int32.toInt x1 := a5
  replace a6 : Int32.toInt x1 ≤ (m' : Int) := a6
  subst a1
  show d2 (zX4_readSum_s24_6b kS (fun q x1 => k (q, x1)) qa x1) (zX10_readSum_5b kS2 (fun q x1 => k2 (q, x1)) qb x2) _
  rcases a4 with ⟨t, l, hm, h1, h2, h3, h4, h5, h6⟩ | ⟨f, h1, h2⟩
  · refine rc_sum hK qb x2 h3 h4 (fun q u j eu hj' hj ht s1 s2 => ?_) (fun q s1 s2 hn => ?_)
    · subst eu
      have hpos := tk_pos hK t ht
      unfold zX4_readSum_s24_6b
      refine d2_lif (fun c => ?_) (fun _ => d2_lif (fun _ => ?_) (fun c => absurd h2.1 c))
      · have := Int32.le_iff_toInt_le.mp c
        have := h1.2.1
        omega
      · refine d2_lB (c_sgi5 hK qa 2 h1 h2 (by decide)) (fun r1 q5 w => ?_)
        obtain ⟨w1, w2⟩ := w
        replace w1 : q5 = qa := w1
        replace w2 : (∃ j : Nat, j < 2 ∧ Int32.toInt r1 = Int32.toInt 2 + (j : Int) ∧ cs t = 100 + ([43, 45] : List Int).getD j 0) ∨ (Int32.toInt r1 = -1 ∧ ∀ j : Nat, j < 2 → ¬ cs t = 100 + ([43, 45] : List Int).getD j 0) := w2
        subst w1
        rcases w2 with ⟨j2, w2, w3, w4⟩ | ⟨w2, w3⟩
        · have dfo : Int32.toInt 2 = 2 := by decide
          refine d2_lif (fun c => by rw [c] at w3; omega) (fun _ => ?_)
          unfold zX10_readSum_29
          refine d2_lV (c_step hK q5 h1 h2 ht) (fun q6 v => ?_)
          refine d2_VV (r_term hK hoo hk hf (m := m' + 1) q6 q x2 hp0 hp8 (Or.inl ⟨t + 1, l, by omega, v.1, v.2, s1, s2, h5, h6⟩)) (fun q9 q10 R2 => ?_)
          refine d2_lG (fun _ => d2_lV (c_emit q9 _ _) (fun q13 cc => ?_))
          have t1 : Int32.toInt (x1 + 1) = Int32.toInt x1 + 1 := ti_add rfl d1 (by have := hK.1; omega) (by have := hK.1; omega)
          exact hkk (q13, x1 + 1) (q10, x2) ⟨rfl, m' + 1, by omega, R2.s cc, by show 0 ≤ Int32.toInt (x1 + 1); omega, by show Int32.toInt (x1 + 1) ≤ _; omega⟩
        · exact absurd hj (w3 j hj')
    · have R2 : RR B n T ps es cs vs oo m (Int32.toInt x2) qa q := Or.inl ⟨t, l, by omega, h1, h2, s1, s2, h5, h6⟩
      unfold zX4_readSum_s24_6b zX4_readSum_s24_59
      refine d2_lif (fun _ => d2_some R2) (fun _ => d2_lif (fun _ => ?_) (fun _ => d2_some R2))
      refine d2_lB (c_sgi5 hK qa 2 h1 h2 (by decide)) (fun r1 q5 w => ?_)
      obtain ⟨w1, w2⟩ := w
      replace w1 : q5 = qa := w1
      replace w2 : (∃ j : Nat, j < 2 ∧ Int32.toInt r1 = Int32.toInt 2 + (j : Int) ∧ cs t = 100 + ([43, 45] : List Int).getD j 0) ∨ (Int32.toInt r1 = -1 ∧ ∀ j : Nat, j < 2 → ¬ cs t = 100 + ([43, 45] : List Int).getD j 0) := w2
      subst w1
      rcases w2 with ⟨j2, w2, w3, w4⟩ | ⟨w2, w3⟩
      · exact absurd w4 (hn j2 w2)
      · exact d2_lif (fun _ => d2_some R2) (fun c => absurd (Int32.toInt_inj.mp (w2.trans dm.symm)) c)
  · have hl : dAll (zX4_readSum_s24_6b kS (fun q x1 => k (q, x1)) qa x1) (fun o => CF o f) := by
      unfold zX4_readSum_s24_6b zX4_readSum_s24_59
      exact dA_if (fun _ => dA_some h1) (fun _ => dA_if (fun c => absurd c (i32_ne h1.1 h1.2)) (fun _ => dA_some h1))
    exact d2_of hl (gb_sum qb x2 h2) (fun a b ha hb => Or.inr ⟨f, ha, hb⟩)
theorem r_sumN (hK : TKS B n T ps es cs vs) (hoo : oo = 0 ∨ oo = 1) : ∀ (a b : Nat) (m : Nat) (q : dK) (q2 : dS) (p : Int32), 0 ≤ Int32.toInt p → Int32.toInt p ≤ 8 → RR B n T ps es cs vs oo m (Int32.toInt p) q q2 → d2 (zX4_readSum_s24 a q) (zX10_readSum b q2 p) (RR B n T ps es cs vs oo m (Int32.toInt p)) := by
  intro a
  induction a with
  | zero => intro b m q q2 p _ _ _ o o2 e; cases e
  | succ a ih =>
    intro b
    cases b with
    | zero => intro m q q2 p _ _ _ o o2 _ e; cases e
    | succ b => intro m q q2 p h0 h8 h; exact r_sum hK hoo (kS := zX4_readSum_s24 a) (kS2 := zX10_readSum b) (ih b) (fun f q hq => f_sumN a q hq) q q2 p h0 h8 h
end R7

