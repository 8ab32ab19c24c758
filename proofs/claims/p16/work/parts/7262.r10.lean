section R10
variable {B : Nat → Int} {n T : Nat} {ps es : Nat → Nat} {cs vs : Nat → Int} {oo : Int}
/-- what reading answers: the class the fault's place, the reference keeps it and answers whether there was none -/
def RdP (o : Int32 × dK) (o2 : Int32 × dS) : Prop := Int32.toInt o.1 = Int32.toInt (o2.2.1 0 14) ∧ ((Int32.toInt o2.1 = 1 ∧ Int32.toInt o.1 = -1) ∨ (Int32.toInt o2.1 = 0 ∧ ¬ Int32.toInt o.1 = -1))
theorem f_60 (q : dK) (x5 : Int32) {f : Int} (h : CF q f) (a : Nat) : dAll (zX4_read_s24_s46_s25_60 a q x5) (fun o => Int32.toInt o.1 = f) := by
  cases a with
  | zero => intro o e; cases e
  | succ a =>
    show dAll (zX4_read_s24_s46_s25_60b (fun q x5 => zX4_read_s24_s46_s25_60 a q x5) q x5) _
    unfold zX4_read_s24_s46_s25_60b zX4_read_s24_s46_s25_122
    exact dA_if (fun _ => dA_some h.1) (fun _ => dA_if (fun c => absurd c (i32_ne h.1 h.2)) (fun _ => dA_some h.1))
theorem f_93 (q : dK) (x5 : Int32) {f : Int} (h : CF q f) (a : Nat) : dAll (zX4_read_s24_s46_s25_93 (fun q x5 => zX4_read_s24_s46_s25_60 a q x5) q x5) (fun o => Int32.toInt o.1 = f) := by
  unfold zX4_read_s24_s46_s25_93 zX4_read_s24_s46_s25_110
  exact dA_if (fun c => absurd c (i32_ne h.1 h.2)) (fun _ => dA_V (f_exp q 59 h) (fun q3 w => f_60 q3 _ w a))
theorem g_95F (q : dS) {f : Int} (h : MF q f) : dAll (zX10_reads_95 q) (fun o => Int32.toInt (o.2.1 0 14) = f ∧ Int32.toInt o.1 = 0) := by
  unfold zX10_reads_95
  refine dA_L (fun q1 e1 => ?_)
  have h1 : MF q1 f := ⟨by rw [e1, dui_n (by decide)]; exact h.1, h.2⟩
  refine dA_B (m_fineF q1 h1) (fun r2 q4 z => ?_)
  obtain ⟨z1, z2⟩ := z
  replace z1 : q4 = q1 := z1
  replace z2 : Int32.toInt r2 = 0 := z2
  subst z1
  exact dA_G (fun _ => dA_some ⟨by show Int32.toInt (q4.1 0 14) = f; rw [e1, dui_e]; exact h.1, z2⟩)
theorem g_95 (q : dS) {t : Nat} {l : Int} (h : MA T q t l) : dAll (zX10_reads_95 q) (fun o => Int32.toInt (o.2.1 0 14) = -1 ∧ Int32.toInt o.1 = 1) := by
  unfold zX10_reads_95
  refine dA_L (fun q1 e1 => ?_)
  have h1 : MA T q1 t l := ⟨by rw [e1, dui_n (by decide)]; exact h.1, h.2.1, by rw [e1, dui_n (by decide)]; exact h.2.2.1, by rw [e1, dui_n (by decide)]; exact h.2.2.2⟩
  refine dA_B (m_fine q1 h1) (fun r2 q4 z => ?_)
  obtain ⟨z1, z2⟩ := z
  replace z1 : q4 = q1 := z1
  replace z2 : Int32.toInt r2 = 1 := z2
  subst z1
  exact dA_G (fun _ => dA_some ⟨by show Int32.toInt (q4.1 0 14) = -1; rw [e1, dui_e, h.1]; decide, z2⟩)
theorem g_34F (q : dS) (x1 : Int32) {f : Int} (h : MF q f) (b : Nat) : dAll (zX10_reads_34 b q x1) (fun o => Int32.toInt (o.2.1 0 14) = f ∧ Int32.toInt o.1 = 0) := by
  have d0 : Int32.toInt 0 = 0 := by decide
  cases b with
  | zero => intro o e; cases e
  | succ b =>
    show dAll (zX10_reads_34b (fun q x1 => zX10_reads_34 b q x1) q x1) _
    unfold zX10_reads_34b
    refine dA_V (m_sign 59) (fun s _ => dA_B (m_takesF q s h) (fun r u z => ?_))
    obtain ⟨z1, z2⟩ := z
    replace z2 : u = q := z2
    replace z1 : Int32.toInt r = 0 := z1
    subst z2
    refine dA_eq (fun _ _ => dA_B (m_fineF u h) (fun r2 u2 y => ?_)) (fun _ c => absurd (z1.trans d0.symm) c)
    obtain ⟨y1, y2⟩ := y
    replace y1 : u2 = u := y1
    replace y2 : Int32.toInt r2 = 0 := y2
    subst y1
    exact dA_eq (fun _ _ => g_95F u2 h) (fun _ c => absurd (y2.trans d0.symm) c)
theorem r_read60 (hK : TKS B n T ps es cs vs) (hoo : oo = 0 ∨ oo = 1) : ∀ (a b i : Nat) (q : dK) (q2 : dS) (x5 x1 : Int32) (t : Nat) (l : Int), i < 12 → Int32.toInt x5 = (i : Int) → Int32.toInt x1 = (i : Int) + 1 → SC B n oo q → CQ B n T ps es q t (Int32.toInt 0) l → SM n T ps cs vs oo q2 → MA T q2 t l → 0 ≤ l → l ≤ 50 →
    d2 (zX4_read_s24_s46_s25_60 a q x5) (dV (zX10_readOne q2) (fun q6 => zX10_reads_34 b q6 x1)) RdP := by
  have d0 : Int32.toInt 0 = 0 := by decide
  have d1 : Int32.toInt 1 = 1 := by decide
  have d12 : Int32.toInt 12 = 12 := by decide
  have dm : Int32.toInt (-1) = -1 := by decide
  intro a
  induction a with
  | zero => intro b i q q2 x5 x1 t l _ _ _ _ _ _ _ _ _ o o2 e; cases e
  | succ a ih =>
    intro b i q q2 x5 x1 t l hi hx5 hx1 h1 h2 h3 h4 h5 h6
    show d2 (zX4_read_s24_s46_s25_60b (fun q x5 => zX4_read_s24_s46_s25_60 a q x5) q x5) _ _
    unfold zX4_read_s24_s46_s25_60b
    refine d2_lif (fun c => by have := Int32.lt_iff_toInt_lt.mp c; omega) (fun _ => d2_lif (fun _ => d2_lif (fun c => by rw [c] at hx5; omega) (fun _ => ?_)) (fun c => absurd h2.1 c))
    have hcl : d2 (zX4_readClause_s24 q) (zX10_readOne q2) (RR B n T ps es cs vs oo 0 (Int32.toInt 0)) := by
      have e2 := h1.2.2
      have e10 := h3.2.2
      unfold zX10_readOne zX10_readOne_18
      rcases hoo with ho | ho
      · refine d2_rif (fun _ => d2_rid ?_) (fun c => absurd (Int32.toInt_inj.mp (show Int32.toInt (q2.1 0 10) = Int32.toInt 0 by omega)) c)
        unfold zX4_readClause_s24
        exact d2_lif (fun _ => r_clause0 hK ho q q2 (Nat.zero_le _) h1 h2 h3 h4 h5 h6) (fun c => absurd (Int32.toInt_inj.mp (show Int32.toInt (q.1 24 2) = Int32.toInt 0 by omega)) c)
      · refine d2_rif (fun c => by rw [c] at e10; omega) (fun _ => d2_rid ?_)
        exact r_clause1 hK ho q q2 (Nat.zero_le _) h1 h2 h3 h4 h5 h6
    refine d2_VV hcl (fun q3 q6 R => ?_)
    have tx5 : Int32.toInt (x5 + 1) = (i : Int) + 1 := ti_add hx5 d1 (by omega) (by omega)
    have tx1 : Int32.toInt (x1 + 1) = (i : Int) + 1 + 1 := ti_add hx1 d1 (by omega) (by omega)
    rcases R with ⟨t2, l2, -, g1, g2, g3, g4, g5, g6⟩ | ⟨f, g1, g2⟩
    · cases b with
      | zero => intro o o2 _ e; cases e
      | succ b =>
        obtain ⟨k1, k2, k3⟩ := tk_num hK g2
        show d2 _ (zX10_reads_34b (fun q x1 => zX10_reads_34 b q x1) q6 x1) _
        unfold zX4_read_s24_s46_s25_93 zX10_reads_34b
        refine d2_lif (fun _ => ?_) (fun c => absurd g2.1 c)
        refine d2_rV (m_sign 59) (fun s fs => ?_)
        have es9 : Int32.toInt s = 159 := by rw [fs]; decide
        refine d2_rB (m_takes hK q6 s g3 g4 (by rw [es9]; decide)) (fun r u z => ?_)
        rw [es9] at z
        replace z : (Int32.toInt r = 1 ∧ cs t2 = 159 ∧ t2 < T ∧ SM n T ps cs vs oo u ∧ MA T u (t2 + 1) l2) ∨ (Int32.toInt r = 0 ∧ ¬ cs t2 = 159 ∧ u = q6) := z
        rcases z with ⟨z1, z2, z3, z4, z5⟩ | ⟨z1, z2, z3⟩
        · refine d2_rif (fun c => by rw [c] at z1; omega) (fun _ => d2_lif (fun c => ?_) (fun _ => ?_))
          · have e4 : Int32.toInt (q3.1 24 4) = 0 := by rw [c]; exact d0
            have := k2.mp e4
            omega
          · unfold zX4_read_s24_s46_s25_110
            have hexp : dAll (zX4_expectSign_s24 q3 59) (fun o => SC B n oo o ∧ CQ B n T ps es o (t2 + 1) (Int32.toInt 0) l2) := by
              unfold zX4_expectSign_s24 zX4_expectSign_s24_19
              refine dA_B (c_sign hK q3 59 g1 g2 (by decide) (by decide)) (fun r1 q4 w => ?_)
              obtain ⟨w1, w2⟩ := w
              replace w1 : q4 = q3 := w1
              replace w2 : (Int32.toInt r1 = 1 ∧ cs t2 = 100 + Int32.toInt 59) ∨ (Int32.toInt r1 = 0 ∧ ¬ cs t2 = 100 + Int32.toInt 59) := w2
              rw [show Int32.toInt 59 = 59 by decide] at w2
              subst w1
              exact dA_if (fun c => by rw [c] at w2; omega) (fun _ => dA_V (c_step hK q4 g1 g2 z3) (fun o w => dA_some w))
            refine d2_lV hexp (fun q4 w => ?_)
            unfold zX10_reads_56 zX10_reads_67
            refine d2_rif (fun c12 => ?_) (fun c12 => ?_)
            · -- the thirteenth
              have i11 : (i : Int) = 11 := by rw [c12] at hx1; omega
              refine d2_rV (m_faults u z4 z5) (fun u2 w2 => d2_rB (m_fineF u2 w2) (fun r3 u3 y => ?_))
              obtain ⟨y1, y2⟩ := y
              replace y1 : u3 = u2 := y1
              replace y2 : Int32.toInt r3 = 0 := y2
              subst y1
              refine d2_rif (fun _ => ?_) (fun c => absurd (Int32.toInt_inj.mp (y2.trans d0.symm)) c)
              have hl : dAll (zX4_read_s24_s46_s25_60 a q4 (x5 + 1)) (fun o => Int32.toInt o.1 = ((stP n T ps (t2 + 1) : Nat) : Int)) := by
                cases a with
                | zero => intro o e; cases e
                | succ a =>
                  show dAll (zX4_read_s24_s46_s25_60b (fun q x5 => zX4_read_s24_s46_s25_60 a q x5) q4 (x5 + 1)) _
                  unfold zX4_read_s24_s46_s25_60b
                  refine dA_lt (fun c => by omega) (fun _ => dA_if (fun _ => dA_eq (fun _ _ => dA_V (c_fail q4 w.2) (fun o w3 => f_93 o _ w3 a)) (fun _ c => absurd (by omega) c)) (fun c => absurd w.2.1 c))
              refine d2_of hl (g_34F u3 (x1 + 1) w2 b) (fun o o2 ho ho2 => ⟨by rw [ho, ho2.1], Or.inr ⟨ho2.2, by rw [ho]; omega⟩⟩)
            · refine d2_rB (m_fine u z5) (fun r3 u3 y => ?_)
              obtain ⟨y1, y2⟩ := y
              replace y1 : u3 = u := y1
              replace y2 : Int32.toInt r3 = 1 := y2
              subst y1
              refine d2_rif (fun c => by rw [c] at y2; omega) (fun _ => ?_)
              have i12 : i + 1 < 12 := by
                rcases Nat.lt_or_ge (i + 1) 12 with c | c
                · exact c
                · exact absurd (Int32.toInt_inj.mp (show Int32.toInt x1 = Int32.toInt 12 by omega)) c12
              exact ih b (i + 1) q4 u3 (x5 + 1) (x1 + 1) (t2 + 1) l2 i12 (by omega) (by omega) w.1 w.2 z4 z5 g5 g6
        · subst z3
          refine d2_rif (fun _ => ?_) (fun c => absurd (Int32.toInt_inj.mp (z1.trans d0.symm)) c)
          refine d2_rB (m_fine u g4) (fun r3 u3 y => ?_)
          obtain ⟨y1, y2⟩ := y
          replace y1 : u3 = u := y1
          replace y2 : Int32.toInt r3 = 1 := y2
          subst y1
          have e18 := g3.2.1
          have e19 := g4.2.2.1
          have hT2 := g4.2.1
          refine d2_rif (fun c => by rw [c] at y2; omega) (fun _ => d2_lif (fun c4 => ?_) (fun c4 => ?_))
          · have eT : t2 = T := k2.mp (by rw [c4]; exact d0)
            refine d2_rif (fun _ => ?_) (fun c => absurd (Int32.le_iff_toInt_le.mpr (by omega)) c)
            exact d2_of (dA_some rfl : dAll (some ((-1 : Int32), q3)) (fun o => o.1 = -1)) (g_95 u3 g4) (fun o o2 ho ho2 => ⟨by rw [ho, ho2.1]; exact dm, Or.inl ⟨ho2.2, by rw [ho]; exact dm⟩⟩)
          · have nT : ¬ t2 = T := fun z => c4 (Int32.toInt_inj.mp ((k2.mpr z).trans d0.symm))
            refine d2_rif (fun c => by have := Int32.le_iff_toInt_le.mp c; omega) (fun _ => ?_)
            unfold zX4_read_s24_s46_s25_110
            have hexp : dAll (zX4_expectSign_s24 q3 59) (fun o => CF o ((stP n T ps t2 : Nat) : Int)) := by
              unfold zX4_expectSign_s24 zX4_expectSign_s24_19
              refine dA_B (c_sign hK q3 59 g1 g2 (by decide) (by decide)) (fun r1 q4 w => ?_)
              obtain ⟨w1, w2⟩ := w
              replace w1 : q4 = q3 := w1
              replace w2 : (Int32.toInt r1 = 1 ∧ cs t2 = 100 + Int32.toInt 59) ∨ (Int32.toInt r1 = 0 ∧ ¬ cs t2 = 100 + Int32.toInt 59) := w2
              rw [show Int32.toInt 59 = 59 by decide] at w2
              subst w1
              refine dA_if (fun _ => dA_V (c_fail q4 g2) (fun o w => dA_some w)) (fun c => ?_)
              rcases w2 with w2 | w2
              · exact absurd w2.2 z2
              · exact absurd (Int32.toInt_inj.mp (w2.1.trans d0.symm)) c
            have hl : dAll (dV (zX4_expectSign_s24 q3 59) (fun q3 => zX4_read_s24_s46_s25_60 a q3 (x5 + 1))) (fun o => Int32.toInt o.1 = ((stP n T ps t2 : Nat) : Int)) := dA_V hexp (fun q4 w => f_60 q4 _ w a)
            have hr : dAll (dV (zX10_faults u3) (fun q11 => zX10_reads_95 q11)) (fun o => Int32.toInt (o.2.1 0 14) = ((stP n T ps t2 : Nat) : Int) ∧ Int32.toInt o.1 = 0) := dA_V (m_faults u3 g3 g4) (fun o w => g_95F o w)
            exact d2_of hl hr (fun o o2 ho ho2 => ⟨by rw [ho, ho2.1], Or.inr ⟨ho2.2, by rw [ho]; omega⟩⟩)
    · exact d2_of (f_93 q3 x5 g1 a) (g_34F q6 x1 g2 b) (fun o o2 ho ho2 => ⟨by rw [ho, ho2.1], Or.inr ⟨ho2.2, by rw [ho]; exact g1.2⟩⟩)
/-- the first token -/
theorem c_step0 (hK : TKS B n T ps es cs vs) (q : dK) (hs : SC B n oo q) (h10 : q.1 24 10 = -1) (h6 : q.1 24 6 = 0) (h8 : q.1 24 8 = 0) (h9 : q.1 24 9 = 0) : dAll (zX4_step_s24 q) (fun o => SC B n oo o ∧ CQ B n T ps es o 0 (Int32.toInt 0) 0) := by
  have d0 : Int32.toInt 0 = 0 := by decide
  refine dA_mono (st_step (B := B) q 0 n hs.1 h10 hs.2.1 hK.1 (by rw [h6]; exact d0) (Nat.zero_le _)) (fun o z => ?_)
  obtain ⟨s, e, z1, z2, z3, z4, z5, z6, z7⟩ := z
  have f : ∀ k : Nat, ¬ (k = 4 ∨ k = 5 ∨ k = 6 ∨ k = 7) → o.1 24 k = q.1 24 k := fun k hk => z7 24 k (fun y => hk y.2)
  have hpn : pn es 0 = 0 := rfl
  refine ⟨⟨fun i => by rw [z7 46 i (by omega)]; exact hs.1 i, by rw [f 1 (by decide)]; exact hs.2.1, by rw [f 2 (by decide)]; exact hs.2.2⟩, by rw [f 10 (by decide)]; exact h10, Nat.zero_le _, ?_⟩
  by_cases c : 0 < T
  · obtain ⟨k0, k1, k2, k3⟩ := hK.2.2.2.1 0 c
    rw [hpn] at k0
    have es1 : s = ps 0 := Sk_u z1 k0
    subst es1
    have ee := En_u z2 k2
    subst ee
    rw [st_lt c, st_lt c, if_pos c]
    exact ⟨z3, z4, by rw [z5, if_pos k1], fun _ y => z6 k1 y, by rw [f 8 (by decide), h8]; exact d0, by rw [f 9 (by decide), h9]⟩
  · have eT : T = 0 := by omega
    have k0 := hK.2.2.2.2.1
    rw [eT, hpn] at k0
    have es1 : s = n := Sk_u z1 k0
    rw [es1] at z2 z3 z5
    have ee : e = n := by
      rcases z2 with y | y
      · exact y.2
      · omega
    rw [st_T c, st_T c, if_neg c]
    exact ⟨z3, by rw [z4, ee], by rw [z5, if_neg (Nat.lt_irrefl _)], fun y => absurd y c, by rw [f 8 (by decide), h8]; exact d0, by rw [f 9 (by decide), h9]⟩
end R10
/-- reading on both sides: the same fault -/
theorem r_read {B : Nat → Int} (q : dK) (q2 : dS) (hT2 : TS q2) (p2 p3 : Int32) (n : Nat) (h400 : n ≤ 400) (hp2 : Int32.toInt p2 = (n : Int)) (hp3 : p3 = 0 ∨ p3 = 1) (hB : ∀ i : Nat, Int32.toInt (q.1 46 i) = B i) (h13 : Int32.toInt (q2.1 0 13) = (n : Int)) (hR : ∀ i : Nat, i < n → tpR (B i) (Int32.toInt (q2.1 7 i))) :
    d2 (zX4_read_s24_s46_s25 q p2 p3) (zX10_readsAs q2 p3) RdP := by
  have d0 : Int32.toInt 0 = 0 := by decide
  have d1 : Int32.toInt 1 = 1 := by decide
  have d8 : Int32.toInt 8 = 8 := by decide
  have d15 : Int32.toInt 15 = 15 := by decide
  have d16 : Int32.toInt 16 = 16 := by decide
  have d21 : Int32.toInt 21 = 21 := by decide
  have d400 : Int32.toInt 400 = 400 := by decide
  unfold zX4_read_s24_s46_s25 zX10_readsAs
  refine d2_lL (fun a1 e1 => d2_lL (fun a2 e2 => d2_lG (fun _ => d2_lL (fun a4 e4 => d2_lL (fun a5 e5 => d2_lG (fun _ => ?_))))))
  have hcl : dAll (zX7_clear_s25 a5) (fun o => CS a5 o) := by
    unfold zX7_clear_s25
    exact dA_L (fun b1 f1 => dA_L (fun b2 f2 => dA_some (by rw [f2, f1]; exact (CS.rf.i (by decide) (by decide)).i (by decide) (by decide))))
  refine d2_lV hcl (fun a9 c9 => d2_lL (fun a10 e10 => d2_lL (fun a11 e11 => d2_lL (fun a12 e12 => d2_lL (fun a13 e13 => ?_)))))
  have h46 : ∀ i : Nat, a13.1 46 i = q.1 46 i := by
    intro i
    rw [e13, cui_o (by decide), e12, cui_o (by decide), e11, cui_o (by decide), e10, cui_o (by decide), c9.2, e5, cui_o (by decide), e4, cui_o (by decide), e2, cui_o (by decide), e1, cui_o (by decide)]
  have hmn : Int32.toInt (mnI p2 400) = (n : Int) := by
    have z := mn_le (a := p2) (b := 400)
    omega
  have f1 : a13.1 24 1 = mnI p2 400 := by rw [e13, cui_n (by decide), e12, cui_n (by decide), e11, cui_n (by decide), e10, cui_n (by decide), c9.1, e5, cui_n (by decide), e4, cui_n (by decide), e2, cui_e]
  have f2 : a13.1 24 2 = p3 := by rw [e13, cui_n (by decide), e12, cui_n (by decide), e11, cui_n (by decide), e10, cui_n (by decide), c9.1, e5, cui_n (by decide), e4, cui_e]
  have f6 : a13.1 24 6 = 0 := by rw [e13, cui_n (by decide), e12, cui_n (by decide), e11, cui_n (by decide), e10, cui_e]
  have f8 : a13.1 24 8 = 0 := by rw [e13, cui_n (by decide), e12, cui_n (by decide), e11, cui_e]
  have f9 : a13.1 24 9 = 0 := by rw [e13, cui_n (by decide), e12, cui_e]
  have f10 : a13.1 24 10 = -1 := by rw [e13, cui_e]
  -- the reference
  have hmain : ∀ (b : dS) (oo : Int), TS b → (oo = 0 ∨ oo = 1) → Int32.toInt p3 = oo → Int32.toInt (b.1 0 13) = (n : Int) → (∀ i : Nat, b.1 7 i = q2.1 7 i) → ((oo = 0 ∧ Int32.toInt (b.1 0 10) = 0 ∧ Int32.toInt (b.1 0 8) = 8 ∧ Int32.toInt (b.1 0 9) = 16) ∨ (oo = 1 ∧ Int32.toInt (b.1 0 10) = 1 ∧ Int32.toInt (b.1 0 8) = 15 ∧ Int32.toInt (b.1 0 9) = 21)) →
      d2 (dV (zX4_step_s24 a13) (fun q16 => zX4_read_s24_s46_s25_60 dF q16 0)) (dB (zX10_reads b) (fun r2 q4 => dG (dbl r2) (some (r2, q4)))) RdP := by
    intro b oo tb hoo h3 hb13 hb7 hbw
    have hid : ∀ (X : Option (Int32 × dK)) (Y : Option (Int32 × dS)), d2 X Y RdP → d2 X (dB Y (fun r2 q4 => dG (dbl r2) (some (r2, q4)))) RdP := by
      intro X Y h x y ex ey
      obtain ⟨r2, q4, e1, e2⟩ := dB_some ey
      obtain ⟨-, e3⟩ := dG_some e2
      cases e3
      exact h x _ ex e1
    refine hid _ _ ?_
    unfold zX10_reads
    refine d2_rV (m_splits (B := B) b tb (b.1 0 13) n hb13 h400 (fun i hi => by rw [hb7]; exact hR i hi)) (fun b3 w => ?_)
    obtain ⟨⟨T, ps, es, hX⟩, hfr⟩ := w
    refine d2_rL (fun b4 g4 => d2_rL (fun b5 g5 => d2_rL (fun b6 g6 => d2_rL (fun b7 g7 => ?_))))
    obtain ⟨x1, x2, x3, x4, x5, x6, x7⟩ := hX
    have hK : TKS B n T ps es (fun j => Int32.toInt (b3.1 9 j)) (fun j => Int32.toInt (b3.1 10 j)) := by
      refine ⟨h400, x7, fun i hi => ?_, fun j hj => ⟨(x1 j hj).1, (x1 j hj).2.2⟩, x2, x4, x5⟩
      have z := hR i hi
      unfold tpR at z
      omega
    have r7 : ∀ j i : Nat, ¬ j = 0 → b7.1 j i = b3.1 j i := by
      intro j i hj
      rw [g7, dui_o hj, g6, dui_o hj, g5, dui_o hj, g4, dui_o hj]
    have q7 : ∀ k : Nat, ¬ (k = 13 ∨ k = 19 ∨ k = 20 ∨ k = 21) → b7.1 0 k = b3.1 0 k := by
      intro k hk
      rw [g7, dui_n (by omega), g6, dui_n (by omega), g5, dui_n (by omega), g4, dui_n (by omega)]
    have hSM : SM n T ps (fun j => Int32.toInt (b3.1 9 j)) (fun j => Int32.toInt (b3.1 10 j)) oo b7 := by
      refine ⟨fun j hj => ⟨by rw [r7 9 j (by decide)], by rw [r7 10 j (by decide)], ?_⟩, by rw [q7 18 (by decide)]; exact x6, ?_⟩
      · rw [r7 11 j (by decide)]
        by_cases c : j < T
        · rw [st_lt c]; exact (x1 j c).2.1
        · rw [st_T c, show j = T by omega]; exact x3
      · rw [q7 10 (by decide), q7 8 (by decide), q7 9 (by decide), hfr 0 10 (by decide) (by decide), hfr 0 8 (by decide) (by decide), hfr 0 9 (by decide) (by decide)]
        exact hbw
    have hMA : MA T b7 0 0 := by
      refine ⟨by rw [g7, dui_e], Nat.zero_le _, ?_, ?_⟩
      · rw [g7, dui_n (by decide), g6, dui_n (by decide), g5, dui_e]; exact d0
      · rw [g7, dui_n (by decide), g6, dui_e]; exact d0
    have hSC : SC B n oo a13 := ⟨fun i => by rw [h46]; exact hB i, by rw [f1]; exact hmn, by rw [f2]; exact h3⟩
    refine d2_lV (c_step0 hK a13 hSC f10 f6 f8 f9) (fun a16 v => ?_)
    exact r_read60 hK hoo dF dF 0 a16 b7 0 1 0 0 (by decide) d0 d1 v.1 v.2 hSM hMA (by decide) (by decide)
  refine d2_rG (fun _ => d2_rL (fun b2 g2 => ?_))
  have tb2 : TS b2 := by rw [g2]; exact ts_f hT2 (by rcases hp3 with z | z <;> rw [z] <;> decide) (by rcases hp3 with z | z <;> rw [z] <;> decide)
  unfold zX10_readsAs_17 zX10_readsAs_32
  rcases hp3 with z | z
  · subst z
    refine d2_rif (fun _ => d2_rL (fun b3 g3 => d2_rif (fun _ => d2_rL (fun b4 g4 => ?_)) (fun c => absurd rfl c))) (fun c => absurd rfl c)
    refine hmain b4 0 ?_ (Or.inl rfl) d0 ?_ (fun i => ?_) (Or.inl ⟨rfl, ?_, ?_, ?_⟩)
    · rw [g4]; exact ts_f (by rw [g3]; exact ts_f tb2 (by decide) (by decide)) (by decide) (by decide)
    · rw [g4, dui_n (by decide), g3, dui_n (by decide), g2, dui_n (by decide)]; exact h13
    · rw [g4, dui_o (by decide), g3, dui_o (by decide), g2, dui_o (by decide)]
    · rw [g4, dui_n (by decide), g3, dui_n (by decide), g2, dui_e]; exact d0
    · rw [g4, dui_n (by decide), g3, dui_e]; exact d8
    · rw [g4, dui_e]; exact d16
  · subst z
    refine d2_rif (fun c => absurd c (by decide)) (fun _ => d2_rL (fun b3 g3 => d2_rif (fun c => absurd c (by decide)) (fun _ => d2_rL (fun b4 g4 => ?_))))
    refine hmain b4 1 ?_ (Or.inr rfl) d1 ?_ (fun i => ?_) (Or.inr ⟨rfl, ?_, ?_, ?_⟩)
    · rw [g4]; exact ts_f (by rw [g3]; exact ts_f tb2 (by decide) (by decide)) (by decide) (by decide)
    · rw [g4, dui_n (by decide), g3, dui_n (by decide), g2, dui_n (by decide)]; exact h13
    · rw [g4, dui_o (by decide), g3, dui_o (by decide), g2, dui_o (by decide)]
    · rw [g4, dui_n (by decide), g3, dui_n (by decide), g2, dui_e]; exact d1
    · rw [g4, dui_n (by decide), g3, dui_e]; exact d15
    · rw [g4, dui_e]; exact d21
