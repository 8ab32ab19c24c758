section R8
variable {B : Nat → Int} {n T : Nat} {ps es : Nat → Nat} {cs vs : Nat → Int} {oo : Int}
theorem gm_plain {kT : dS → Int32 → Option dS} {f : Int} (m : Nat) (q : dS) (p1 x2 : Int32) (h : MF q f) : dAll (zX10_readPlain_2 kT m q p1 x2) (fun o => MF o f) := by
  have d0 : Int32.toInt 0 = 0 := by decide
  unfold zX10_readPlain_2
  refine dA_fix (fun (a : dS × Int32 × Int32) => MF a.1 f) ?_ m _ h
  intro k hk a ha
  obtain ⟨qa, x1, x2⟩ := a
  replace ha : MF qa f := ha
  show dAll (zX10_readPlain_2b kT (fun q x1 x2 => k (q, x1, x2)) qa x1 x2) _
  unfold zX10_readPlain_2b
  refine dA_if (fun _ => dA_B (m_fineF qa ha) (fun r1 q3 z => ?_)) (fun _ => dA_B (m_takesF qa 7 ha) (fun r29 q31 z => ?_))
  · obtain ⟨z1, z2⟩ := z
    replace z1 : q3 = qa := z1
    replace z2 : Int32.toInt r1 = 0 := z2
    subst z1
    exact dA_eq (fun _ _ => dA_some ha) (fun _ c => absurd (z2.trans d0.symm) c)
  · obtain ⟨z1, z2⟩ := z
    replace z2 : q31 = qa := z2
    subst z2
    exact hk (q31, x1, r29) ha
theorem fm_plain {kT : dK → Option dK} {f : Int} (hk : ∀ q : dK, CF q f → dAll (kT q) (fun o => CF o f)) (m : Nat) (q : dK) (x1 x2 : Int32) (h : CF q f) : dAll (zX4_readPlain_s24_4 kT m q x1 x2) (fun o => CF o f) := by
  unfold zX4_readPlain_s24_4
  refine dA_fix (fun (a : dK × Int32 × Int32) => CF a.1 f) ?_ m _ h
  intro k hk4 a ha
  obtain ⟨qa, y1, y2⟩ := a
  replace ha : CF qa f := ha
  show dAll (zX4_readPlain_s24_4b kT (fun q x1 x2 => k (q, x1, x2)) qa y1 y2) _
  unfold zX4_readPlain_s24_4b zX4_readPlain_s24_30
  refine dA_if (fun _ => f_plain41 hk qa y1 ha) (fun _ => dA_B (wd_id8 qa) (fun r1 q3 z => ?_))
  replace z : q3 = qa := z
  subst z
  exact dA_if (fun _ => f_plain41 hk q3 y1 ha) (fun _ => dA_if (fun _ => dA_V (c_stepF q3 ha) (fun q4 w => hk4 (q4, 1, y2 + 1) w)) (fun _ => dA_V (c_stepF q3 ha) (fun q4 w => hk4 (q4, 0, y2 + 1) w)))
theorem r_plain128 {kT : dK → Option dK} {m : Nat} {d : Int} {q : dK} {q2 : dS} (x1 : Int32) (h : RR B n T ps es cs vs oo m d q q2) : d2 (zX4_readPlain_s24_128 kT q x1) (some q2) (RR B n T ps es cs vs oo m d) := by
  unfold zX4_readPlain_s24_128 zX4_readPlain_s24_142
  exact d2_lif (fun _ => d2_some h) (fun _ => d2_lG (fun _ => d2_lV (c_emit q _ _) (fun o k => d2_some (h.s k))))
/-- behind "not"s -/
theorem r_plain41 (hK : TKS B n T ps es cs vs) (hoo : oo = 0 ∨ oo = 1) {kT : dK → Option dK} {kT2 : dS → Int32 → Option dS} (hk : ∀ (m : Nat) (q : dK) (q2 : dS) (p : Int32), 0 ≤ Int32.toInt p → Int32.toInt p ≤ 8 → RR B n T ps es cs vs oo m (Int32.toInt p) q q2 → d2 (kT q) (kT2 q2 p) (RR B n T ps es cs vs oo m (Int32.toInt p))) (hf : ∀ (f : Int) (q : dK), CF q f → dAll (kT q) (fun o => CF o f)) {m : Nat} (k2 : dS → Int32 → Int32 → Option dS) (q : dK) (q2 : dS) (p1 y1 : Int32) (hp0 : 0 ≤ Int32.toInt p1) (hp8 : Int32.toInt p1 ≤ 8) (h : RR B n T ps es cs vs oo m (Int32.toInt p1) q q2) :
    d2 (zX4_readPlain_s24_41 kT q y1) (zX10_readPlain_2b kT2 k2 q2 p1 0) (RR B n T ps es cs vs oo m (Int32.toInt p1)) := by
  have d0 : Int32.toInt 0 = 0 := by decide
  have d1 : Int32.toInt 1 = 1 := by decide
  have d8 : Int32.toInt 8 = 8 := by decide
  have dm : Int32.toInt (-1) = -1 := by decide
  have d7 : Int32.toInt 7 = 7 := by decide
  unfold zX10_readPlain_2b
  refine d2_rif (fun _ => ?_) (fun c => absurd rfl c)
  rcases h with ⟨t, l, hm, h1, h2, h3, h4, h5, h6⟩ | ⟨f, h1, h2⟩
  · unfold zX4_readPlain_s24_41
    refine d2_lB (c_sign hK q 40 h1 h2 (by decide) (by decide)) (fun r1 q3 z => ?_)
    obtain ⟨z1, z2⟩ := z
    replace z1 : q3 = q := z1
    replace z2 : (Int32.toInt r1 = 1 ∧ cs t = 100 + Int32.toInt 40) ∨ (Int32.toInt r1 = 0 ∧ ¬ cs t = 100 + Int32.toInt 40) := z2
    rw [show Int32.toInt 40 = 40 by decide] at z2
    subst z1
    refine d2_rB (m_fine q2 h4) (fun r2 q4 y => ?_)
    obtain ⟨y1', y2⟩ := y
    replace y1' : q4 = q2 := y1'
    replace y2 : Int32.toInt r2 = 1 := y2
    subst y1'
    refine d2_rif (fun c => by rw [c] at y2; omega) (fun _ => d2_rG (fun _ => d2_rL (fun v5 e5 => d2_rV (m_sign 40) (fun r6 e6 => ?_))))
    have h4t := h4.2.2.1
    have n1 := cl_eq (i := q4.1 0 19) (by omega)
    have ct : Int32.toNatClampNeg (q4.1 0 19) = t := by omega
    have ev : Int32.toInt v5 = cs t := by rw [e5, ct]; exact (h3.1 t h4.2.1).1
    have ev6 : Int32.toInt r6 = 140 := by rw [e6]; decide
    have e9 : Int32.toInt (q3.1 24 9) = Int32.toInt p1 := h2.2.2.2.2.2.2.2
    refine d2_rif (fun c5 => ?_) (fun c5 => ?_)
    · have c140 : cs t = 140 := by rw [← ev, c5]; exact ev6
      have ht : t < T := cs_lt hK h4.2.1 (by omega)
      refine d2_lif (fun c => by rw [c] at z2; omega) (fun _ => ?_)
      refine d2_rif (fun c8 => ?_) (fun c8 => ?_)
      · have hL : dAll (zX4_openBracket_s24 q3) (fun o => Int32.toInt o.1 = 0 ∧ CF o.2 ((stP n T ps t : Nat) : Int)) := by
          unfold zX4_openBracket_s24
          exact dA_lt (fun c => by rw [c8] at e9; omega) (fun _ => dA_V (c_fail q3 h2) (fun o w => dA_some ⟨d0, w⟩))
        refine d2_lB hL (fun r7 q9 w => d2_lif (fun _ => ?_) (fun c => absurd (Int32.toInt_inj.mp (w.1.trans d0.symm)) c))
        unfold zX10_readPlain_53
        refine d2_rV (m_faults q4 h3 h4) (fun q5 w5 => d2_rB (m_fineF q5 w5) (fun r9 q6 u => ?_))
        obtain ⟨u1, u2⟩ := u
        replace u1 : q6 = q5 := u1
        replace u2 : Int32.toInt r9 = 0 := u2
        subst u1
        exact d2_rif (fun _ => r_plain128 y1 (Or.inr ⟨_, w.2, w5⟩)) (fun c => absurd (Int32.toInt_inj.mp (u2.trans d0.symm)) c)
      · have hlt : Int32.toInt p1 < 8 := by
          rcases Int.lt_or_le (Int32.toInt p1) 8 with c | c
          · exact c
          · exact absurd (Int32.toInt_inj.mp (show Int32.toInt p1 = Int32.toInt 8 by omega)) c8
        have tp : Int32.toInt (p1 + 1 : Int32) = Int32.toInt p1 + 1 := ti_add rfl d1 (by omega) (by omega)
        have hL : dAll (zX4_openBracket_s24 q3) (fun o => Int32.toInt o.1 = 1 ∧ SC B n oo o.2 ∧ CQ B n T ps es o.2 (t + 1) (Int32.toInt (p1 + 1 : Int32)) l) := by
          unfold zX4_openBracket_s24
          refine dA_lt (fun _ => dA_L (fun qa ea => ?_)) (fun c => by omega)
          have k9 := c_set9 q3 (q3.1 24 9 + 1 : Int32) h1 h2
          rw [← ea, ti_add e9 d1 (by omega) (by omega), ← tp] at k9
          exact dA_V (c_step hK qa k9.1 k9.2 ht) (fun o w => dA_some ⟨d1, w.1, w.2⟩)
        refine d2_lB hL (fun r7 q9 w => d2_lif (fun c => by have z : Int32.toInt r7 = 1 := w.1; rw [c] at z; omega) (fun _ => ?_))
        unfold zX10_readPlain_53
        refine d2_rB (m_fine q4 h4) (fun r9 q6 u => ?_)
        obtain ⟨u1, u2⟩ := u
        replace u1 : q6 = q4 := u1
        replace u2 : Int32.toInt r9 = 1 := u2
        subst u1
        refine d2_rif (fun c => by rw [c] at u2; omega) (fun _ => d2_rL (fun q5 e51 => ?_))
        have mz := m_next q6 h3 h4 ht hK.2.1
        rw [← e51] at mz
        refine d2_VV (hk m q9 q5 (p1 + 1 : Int32) (by omega) (by omega) (Or.inl ⟨t + 1, l, by omega, w.2.1, w.2.2, mz.1, mz.2, h5, h6⟩)) (fun q12 q7 R => ?_)
        refine d2_lL (fun q13 e13 => d2_rV (m_sign 41) (fun r8 e8 => ?_))
        have R13 : RR B n T ps es cs vs oo m (Int32.toInt p1) q13 q7 := by
          rcases R with ⟨t2, l2, g0, g1, g2, g3, g4, g5, g6⟩ | ⟨f, g1, g2⟩
          · have k9 := c_set9 q12 (q12.1 24 9 - 1 : Int32) g1 g2
            have e99 : Int32.toInt (q12.1 24 9) = Int32.toInt (p1 + 1 : Int32) := g2.2.2.2.2.2.2.2
            rw [← e13, ti_sub e99 d1 (by omega) (by omega), tp, show Int32.toInt p1 + 1 - 1 = Int32.toInt p1 by omega] at k9
            exact Or.inl ⟨t2, l2, g0, k9.1, k9.2, g3, g4, g5, g6⟩
          · exact Or.inr ⟨f, by rw [e13]; exact c_setF q12 24 9 _ g1 (by decide), g2⟩
        unfold zX10_readPlain_133
        exact d2_VV (r_must hK 41 r8 (by rw [e8]; decide) (by decide) (by decide) R13) (fun a b w => r_plain128 y1 w)
    · have c140 : ¬ cs t = 140 := fun z => c5 (Int32.toInt_inj.mp (by omega))
      refine d2_lif (fun _ => ?_) (fun c => ?_)
      rotate_left
      · rcases z2 with z2 | z2
        · omega
        · exact absurd (Int32.toInt_inj.mp (z2.1.trans d0.symm)) c
      refine d2_VV (r_sumN hK hoo 10 10 m q3 q4 p1 hp0 hp8 (Or.inl ⟨t, l, hm, h1, h2, h3, h4, h5, h6⟩)) (fun q6 q10 R => ?_)
      rcases R with ⟨t2, l2, g0, g1, g2, g3, g4, g5, g6⟩ | ⟨f, g1, g2⟩
      · refine d2_lB (c_sgi9 hK q6 7 g1 g2 (by decide)) (fun r7 q9 w => ?_)
        obtain ⟨w1, w2⟩ := w
        replace w1 : q9 = q6 := w1
        replace w2 : (∃ j : Nat, j < 3 ∧ Int32.toInt r7 = Int32.toInt 7 + (j : Int) ∧ cs t2 = 100 + ([60, 62, 61] : List Int).getD j 0) ∨ (Int32.toInt r7 = -1 ∧ ∀ j : Nat, j < 3 → ¬ cs t2 = 100 + ([60, 62, 61] : List Int).getD j 0) := w2
        subst w1
        refine d2_lif (fun _ => ?_) (fun c => absurd g2.1 c)
        -- the second sum
        have hsnd : ∀ (u : dS), SM n T ps cs vs oo u → MA T u (t2 + 1) l2 → t2 < T → d2 (dV (zX4_step_s24 q9) (fun q12 => dV (zX4_readSum_s24 10 q12) (fun q15 => dG (dnz (q15.1 24 3)) (dV (zX7_emit_s25 q15 r7 0) (fun q19 => zX4_readPlain_s24_128 kT q19 y1))))) (zX10_readPlain_128 kT2 u p1) (RR B n T ps es cs vs oo m (Int32.toInt p1)) := by
          intro u s1 s2 ht
          unfold zX10_readPlain_128 zX10_readPlain_133
          refine d2_lV (c_step hK q9 g1 g2 ht) (fun q12 v => ?_)
          refine d2_VV (r_sumN hK hoo 10 10 m q12 u p1 hp0 hp8 (Or.inl ⟨t2 + 1, l2, by omega, v.1, v.2, s1, s2, g5, g6⟩)) (fun q15 u3 R3 => ?_)
          exact d2_lG (fun _ => d2_lV (c_emit q15 _ _) (fun q19 cc => r_plain128 y1 (R3.s cc)))
        have hsome : (∃ j : Nat, j < 3 ∧ cs t2 = 100 + ([60, 62, 61] : List Int).getD j 0) → ¬ r7 = -1 := by
          rintro ⟨j, j1, j2⟩ c
          rcases w2 with ⟨i, i1, i2, i3⟩ | ⟨i1, i2⟩
          · rw [c] at i2; omega
          · exact i2 j j1 j2
        refine d2_rV (m_sign 60) (fun s0 f0 => d2_rB (m_takes hK q10 s0 g3 g4 (by rw [f0]; decide)) (fun ra ua z => ?_))
        have k0 : Int32.toInt s0 = 160 := by rw [f0]; decide
        rw [k0] at z
        replace z : (Int32.toInt ra = 1 ∧ cs t2 = 160 ∧ t2 < T ∧ SM n T ps cs vs oo ua ∧ MA T ua (t2 + 1) l2) ∨ (Int32.toInt ra = 0 ∧ ¬ cs t2 = 160 ∧ ua = q10) := z
        rcases z with ⟨za, zb, zc, zd, ze⟩ | ⟨za, zb, zc⟩
        · exact d2_rif (fun c => by rw [c] at za; omega) (fun _ => d2_lif (fun c => absurd c (hsome ⟨0, by decide, zb⟩)) (fun _ => hsnd ua zd ze zc))
        subst zc
        refine d2_rif (fun _ => ?_) (fun c => absurd (Int32.toInt_inj.mp (za.trans d0.symm)) c)
        refine d2_rV (m_sign 62) (fun s1 f1 => d2_rB (m_takes hK ua s1 g3 g4 (by rw [f1]; decide)) (fun rb ub z => ?_))
        have k1 : Int32.toInt s1 = 162 := by rw [f1]; decide
        rw [k1] at z
        replace z : (Int32.toInt rb = 1 ∧ cs t2 = 162 ∧ t2 < T ∧ SM n T ps cs vs oo ub ∧ MA T ub (t2 + 1) l2) ∨ (Int32.toInt rb = 0 ∧ ¬ cs t2 = 162 ∧ ub = ua) := z
        rcases z with ⟨ya, yb, yc, yd, ye⟩ | ⟨ya, yb, yc⟩
        · exact d2_rif (fun c => by rw [c] at ya; omega) (fun _ => d2_lif (fun c => absurd c (hsome ⟨1, by decide, yb⟩)) (fun _ => hsnd ub yd ye yc))
        subst yc
        refine d2_rif (fun _ => ?_) (fun c => absurd (Int32.toInt_inj.mp (ya.trans d0.symm)) c)
        refine d2_rV (m_sign 61) (fun s2 f2 => ?_)
        have k2' : Int32.toInt s2 = 161 := by rw [f2]; decide
        unfold zX10_must zX10_must_12
        by_cases c161 : cs t2 = 161
        · refine d2_lif (fun c => absurd c (hsome ⟨2, by decide, c161⟩)) (fun _ => ?_)
          have hR : dAll (dB (zX10_takes0 ub s2) (fun r1 q3 => if r1 = 0 then dV (zX10_faults q3) (fun q6 => some q6) else some q3)) (fun o => t2 < T ∧ SM n T ps cs vs oo o ∧ MA T o (t2 + 1) l2) := by
            refine dA_B (m_takes hK ub s2 g3 g4 (by rw [k2']; decide)) (fun rc uc z => ?_)
            rw [k2'] at z
            replace z : (Int32.toInt rc = 1 ∧ cs t2 = 161 ∧ t2 < T ∧ SM n T ps cs vs oo uc ∧ MA T uc (t2 + 1) l2) ∨ (Int32.toInt rc = 0 ∧ ¬ cs t2 = 161 ∧ uc = ub) := z
            rcases z with ⟨xa, xb, xc, xd, xe⟩ | ⟨xa, xb, xc⟩
            · exact dA_if (fun c => by rw [c] at xa; omega) (fun _ => dA_some ⟨xc, xd, xe⟩)
            · exact absurd c161 xb
          exact d2_rV hR (fun u w => hsnd u w.2.1 w.2.2 w.1)
        · have hr7 : r7 = -1 := by
            rcases w2 with ⟨i, i1, i2, i3⟩ | ⟨i1, i2⟩
            · exfalso
              have e : i = 0 ∨ i = 1 ∨ i = 2 := by omega
              rcases e with e | e | e <;> subst e
              · exact zb i3
              · exact yb i3
              · exact c161 i3
            · exact Int32.toInt_inj.mp (i1.trans dm.symm)
          refine d2_lif (fun _ => ?_) (fun c => absurd hr7 c)
          unfold zX4_readPlain_s24_106
          have hR : dAll (dB (zX10_takes0 ub s2) (fun r1 q3 => if r1 = 0 then dV (zX10_faults q3) (fun q6 => some q6) else some q3)) (fun o => MF o ((stP n T ps t2 : Nat) : Int)) := by
            refine dA_B (m_takes hK ub s2 g3 g4 (by rw [k2']; decide)) (fun rc uc z => ?_)
            rw [k2'] at z
            replace z : (Int32.toInt rc = 1 ∧ cs t2 = 161 ∧ t2 < T ∧ SM n T ps cs vs oo uc ∧ MA T uc (t2 + 1) l2) ∨ (Int32.toInt rc = 0 ∧ ¬ cs t2 = 161 ∧ uc = ub) := z
            rcases z with ⟨xa, xb, xc, xd, xe⟩ | ⟨xa, xb, xc⟩
            · exact absurd xb c161
            · subst xc
              exact dA_if (fun _ => dA_V (m_faults uc g3 g4) (fun o w => dA_some w)) (fun c => absurd (Int32.toInt_inj.mp (xa.trans d0.symm)) c)
          refine d2_lV (c_fail q9 g2) (fun qf wf => d2_rV hR (fun u w => ?_))
          unfold zX10_readPlain_128 zX10_readPlain_133
          exact d2_rV (g_sumN 10 u p1 w) (fun u2 w2 => d2_some (Or.inr ⟨_, wf, w2⟩))
      · -- a fault in the first sum
        have hl : dAll (dB (zX4_signIn_s24_t9 q6 7) (fun r7 q9 => if (q9.1 24 10) = (-1) then if r7 = (-1) then zX4_readPlain_s24_106 kT q9 else dV (zX4_step_s24 q9) (fun q12 => dV (zX4_readSum_s24 10 q12) (fun q15 => dG (dnz (q15.1 24 3)) (dV (zX7_emit_s25 q15 r7 0) (fun q19 => zX4_readPlain_s24_128 kT q19 y1)))) else zX4_readPlain_s24_106 kT q9)) (fun o => CF o f) := by
          refine dA_B (sgi_id9 q6 7) (fun r7 q9 z => ?_)
          replace z : q9 = q6 := z
          subst z
          unfold zX4_readPlain_s24_106
          exact dA_if (fun c => absurd c (i32_ne g1.1 g1.2)) (fun _ => dA_V (c_failF q9 g1) (fun o w => dA_some w))
        have hr : dAll (dV (zX10_sign 60) (fun r11 => dB (zX10_takes0 q10 r11) (fun r13 q15 => if r13 = 0 then dV (zX10_sign 62) (fun r16 => dB (zX10_takes0 q15 r16) (fun r18 q20 => if r18 = 0 then dV (zX10_sign 61) (fun r21 => dV (zX10_must q20 r21) (fun q25 => zX10_readPlain_128 kT2 q25 p1)) else zX10_readPlain_128 kT2 q20 p1)) else zX10_readPlain_128 kT2 q15 p1))) (fun o => MF o f) := by
          have h128 : ∀ u : dS, MF u f → dAll (zX10_readPlain_128 kT2 u p1) (fun o => MF o f) := by
            intro u w
            unfold zX10_readPlain_128 zX10_readPlain_133
            exact dA_V (g_sumN 10 u p1 w) (fun o w2 => dA_some w2)
          refine dA_V (m_sign 60) (fun s0 _ => dA_B (m_takesF q10 s0 g2) (fun ra ua z => ?_))
          obtain ⟨za, zb⟩ := z
          replace zb : ua = q10 := zb
          subst zb
          refine dA_if (fun _ => dA_V (m_sign 62) (fun s1 _ => dA_B (m_takesF ua s1 g2) (fun rb ub z => ?_))) (fun _ => h128 ua g2)
          obtain ⟨ya, yb⟩ := z
          replace yb : ub = ua := yb
          subst yb
          exact dA_if (fun _ => dA_V (m_sign 61) (fun s2 _ => dA_V (m_mustF ub s2 g2) (fun u w => h128 u w))) (fun _ => h128 ub g2)
        exact d2_of hl hr (fun a b ha hb => Or.inr ⟨f, ha, hb⟩)
  · have hr : dAll (dB (zX10_fine q2) (fun r1 q3 => if r1 = 0 then some q3 else dG (dg (q3.1 0 19) 401) (dL (q3.1 9 (Int32.toNatClampNeg (q3.1 0 19))) (fun v5 => dV (zX10_sign 40) (fun r6 => if v5 = r6 then if p1 = 8 then dV (zX10_faults q3) (fun q28 => zX10_readPlain_53 kT2 q28 p1) else zX10_readPlain_53 kT2 q3 p1 else dV (zX10_readSum 10 q3 p1) (fun q10 => dV (zX10_sign 60) (fun r11 => dB (zX10_takes0 q10 r11) (fun r13 q15 => if r13 = 0 then dV (zX10_sign 62) (fun r16 => dB (zX10_takes0 q15 r16) (fun r18 q20 => if r18 = 0 then dV (zX10_sign 61) (fun r21 => dV (zX10_must q20 r21) (fun q25 => zX10_readPlain_128 kT2 q25 p1)) else zX10_readPlain_128 kT2 q20 p1)) else zX10_readPlain_128 kT2 q15 p1)))))))) (fun o => MF o f) := by
      refine dA_B (m_fineF q2 h2) (fun r1 q3 z => ?_)
      obtain ⟨z1, z2⟩ := z
      replace z1 : q3 = q2 := z1
      replace z2 : Int32.toInt r1 = 0 := z2
      subst z1
      exact dA_eq (fun _ _ => dA_some h2) (fun _ c => absurd (z2.trans d0.symm) c)
    exact d2_of (f_plain41 (hf f) q y1 h1) hr (fun a b ha hb => Or.inr ⟨f, ha, hb⟩)
theorem r_plain (hK : TKS B n T ps es cs vs) (hoo : oo = 0 ∨ oo = 1) {kT : dK → Option dK} {kT2 : dS → Int32 → Option dS} (hk : ∀ (m : Nat) (q : dK) (q2 : dS) (p : Int32), 0 ≤ Int32.toInt p → Int32.toInt p ≤ 8 → RR B n T ps es cs vs oo m (Int32.toInt p) q q2 → d2 (kT q) (kT2 q2 p) (RR B n T ps es cs vs oo m (Int32.toInt p))) (hf : ∀ (f : Int) (q : dK), CF q f → dAll (kT q) (fun o => CF o f)) (p1 : Int32) (hp0 : 0 ≤ Int32.toInt p1) (hp8 : Int32.toInt p1 ≤ 8) : ∀ (a b m m0 : Nat) (q : dK) (q2 : dS) (x1 x2 : Int32), m0 ≤ m → RR B n T ps es cs vs oo m (Int32.toInt p1) q q2 → 0 ≤ Int32.toInt x2 → Int32.toInt x2 ≤ (m : Int) →
    d2 (zX4_readPlain_s24_4 kT a q x1 x2) (zX10_readPlain_2 kT2 b q2 p1 1) (RR B n T ps es cs vs oo m0 (Int32.toInt p1)) := by
  have d0 : Int32.toInt 0 = 0 := by decide
  have d1 : Int32.toInt 1 = 1 := by decide
  have d7 : Int32.toInt 7 = 7 := by decide
  intro a
  induction a with
  | zero => intro b m m0 q q2 x1 x2 _ _ _ _ o o2 e; cases e
  | succ a ih =>
    intro b m m0 q q2 x1 x2 hm0 h hx0 hx
    cases b with
    | zero => intro o o2 _ e; cases e
    | succ b =>
      rcases h with ⟨t, l, hm, h1, h2, h3, h4, h5, h6⟩ | ⟨f, h1, h2⟩
      · show d2 (zX4_readPlain_s24_4b kT (fun q x1 x2 => zX4_readPlain_s24_4 kT a q x1 x2) q x1 x2) (zX10_readPlain_2b kT2 (fun q x1 x2 => zX10_readPlain_2 kT2 b q x1 x2) q2 p1 1) _
        -- the reference looks once more
        have hlast : ∀ u : dS, RR B n T ps es cs vs oo m0 (Int32.toInt p1) q u → d2 (zX4_readPlain_s24_41 kT q x1) (zX10_readPlain_2 kT2 b u p1 0) (RR B n T ps es cs vs oo m0 (Int32.toInt p1)) := by
          intro u R
          cases b with
          | zero => intro o o2 _ e; cases e
          | succ b => exact r_plain41 hK hoo hk hf (fun q x1 x2 => zX10_readPlain_2 kT2 b q x1 x2) q u p1 x1 hp0 hp8 R
        unfold zX10_readPlain_2b
        refine d2_rif (fun c => absurd c (by decide)) (fun _ => d2_rB (m_takes hK q2 7 h3 h4 (by decide)) (fun r29 u z => ?_))
        replace z : (Int32.toInt r29 = 1 ∧ cs t = Int32.toInt 7 ∧ t < T ∧ SM n T ps cs vs oo u ∧ MA T u (t + 1) l) ∨ (Int32.toInt r29 = 0 ∧ ¬ cs t = Int32.toInt 7 ∧ u = q2) := z
        rw [d7] at z
        unfold zX4_readPlain_s24_4b zX4_readPlain_s24_30
        rcases z with ⟨z1, z2, z3, z4, z5⟩ | ⟨z1, z2, z3⟩
        · have hpos := tk_pos hK t z3
          have e29 : r29 = 1 := Int32.toInt_inj.mp (z1.trans d1.symm)
          subst e29
          refine d2_lif (fun c => ?_) (fun _ => d2_lB (c_wd8 hK q h1 h2) (fun r1 q3 w => ?_))
          · have := Int32.le_iff_toInt_le.mp c
            have := h1.2.1
            omega
          · obtain ⟨w1, w2⟩ := w
            replace w1 : q3 = q := w1
            replace w2 : (Int32.toInt r1 = 1 ∧ cs t = 7) ∨ (Int32.toInt r1 = 0 ∧ ¬ cs t = 7) := w2
            subst w1
            have t1 : Int32.toInt (x2 + 1) = Int32.toInt x2 + 1 := ti_add rfl d1 (by have := hK.1; omega) (by have := hK.1; omega)
            refine d2_lif (fun c => by rw [c] at w2; omega) (fun _ => d2_lif (fun _ => d2_lV (c_step hK q3 h1 h2 z3) (fun q4 v => ?_)) (fun _ => d2_lV (c_step hK q3 h1 h2 z3) (fun q4 v => ?_)))
            · exact ih b (m + 1) m0 q4 u 1 (x2 + 1) (by omega) (Or.inl ⟨t + 1, l, by omega, v.1, v.2, z4, z5, h5, h6⟩) (by omega) (by omega)
            · exact ih b (m + 1) m0 q4 u 0 (x2 + 1) (by omega) (Or.inl ⟨t + 1, l, by omega, v.1, v.2, z4, z5, h5, h6⟩) (by omega) (by omega)
        · subst z3
          have e29 : r29 = 0 := Int32.toInt_inj.mp (z1.trans d0.symm)
          subst e29
          have R : RR B n T ps es cs vs oo m0 (Int32.toInt p1) q u := Or.inl ⟨t, l, by omega, h1, h2, h3, h4, h5, h6⟩
          refine d2_lif (fun _ => hlast u R) (fun _ => d2_lB (c_wd8 hK q h1 h2) (fun r1 q3 w => ?_))
          obtain ⟨w1, w2⟩ := w
          replace w1 : q3 = q := w1
          replace w2 : (Int32.toInt r1 = 1 ∧ cs t = 7) ∨ (Int32.toInt r1 = 0 ∧ ¬ cs t = 7) := w2
          subst w1
          refine d2_lif (fun _ => hlast u R) (fun c => ?_)
          rcases w2 with w2 | w2
          · exact absurd w2.2 z2
          · exact absurd (Int32.toInt_inj.mp (w2.1.trans d0.symm)) c
      · exact d2_of (fm_plain (hf f) (a + 1) q x1 x2 h1) (gm_plain (b + 1) q2 p1 1 h2) (fun x y hx hy => Or.inr ⟨f, hx, hy⟩)
theorem r_both (hK : TKS B n T ps es cs vs) (hoo : oo = 0 ∨ oo = 1) {kT : dK → Option dK} {kT2 : dS → Int32 → Option dS} (hk : ∀ (m : Nat) (q : dK) (q2 : dS) (p : Int32), 0 ≤ Int32.toInt p → Int32.toInt p ≤ 8 → RR B n T ps es cs vs oo m (Int32.toInt p) q q2 → d2 (kT q) (kT2 q2 p) (RR B n T ps es cs vs oo m (Int32.toInt p))) (hf : ∀ (f : Int) (q : dK), CF q f → dAll (kT q) (fun o => CF o f)) {m : Nat} (q : dK) (q2 : dS) (p1 : Int32) (hp0 : 0 ≤ Int32.toInt p1) (hp8 : Int32.toInt p1 ≤ 8) (h : RR B n T ps es cs vs oo m (Int32.toInt p1) q q2) :
    d2 (zX4_readBoth_s24 kT q) (zX10_readBoth kT2 q2 p1) (RR B n T ps es cs vs oo m (Int32.toInt p1)) := by
  have d0 : Int32.toInt 0 = 0 := by decide
  have d1 : Int32.toInt 1 = 1 := by decide
  have dc : Int32.toInt 6 = 6 := by decide
  unfold zX4_readBoth_s24 zX10_readBoth
  refine d2_VV (r_plain hK hoo hk hf p1 hp0 hp8 dF dF m m q q2 0 0 (Nat.le_refl _) h (by omega) (by omega)) (fun q3 q4 R => ?_)
  unfold zX4_readBoth_s24_6 zX10_readBoth_5
  refine d2_fix (fun (a : dK × Int32) (a2 : dS × Int32) => a2.2 = p1 ∧ ∃ m' : Nat, m ≤ m' ∧ RR B n T ps es cs vs oo m' (Int32.toInt p1) a.1 a2.1 ∧ 0 ≤ Int32.toInt a.2 ∧ Int32.toInt a.2 ≤ (m' : Int)) ?_ dF dF _ _ ⟨rfl, m, Nat.le_refl _, R, by show 0 ≤ Int32.toInt 0; omega, by show Int32.toInt 0 ≤ _; omega⟩
  intro k k2 hkk a a2 ha
  obtain ⟨qa, x1⟩ := a
  obtain ⟨qb, x2⟩ := a2
  obtain ⟨a1, m', a3, a4, a5, a6⟩ := ha
  replace a1 : x2 = p1 := a1
  replace a4 : RR B n T ps es cs vs oo m' (Int32.toInt p1) qa qb := a4
  replace a5 : 0 ≤ Int32.toInt x1 := a5
  replace a6 : Int32.toInt x1 ≤ (m' : Int) := a6
  subst a1
  show d2 (zX4_readBoth_s24_6b kT (fun q x1 => k (q, x1)) qa x1) (zX10_readBoth_5b kT2 (fun q x1 => k2 (q, x1)) qb x2) _
  unfold zX4_readBoth_s24_6b zX4_readBoth_s24_73 zX10_readBoth_5b
  rcases a4 with ⟨t, l, hm, h1, h2, h3, h4, h5, h6⟩ | ⟨f, h1, h2⟩
  · refine d2_rB (m_takes hK qb 6 h3 h4 (by decide)) (fun r u z => ?_)
    replace z : (Int32.toInt r = 1 ∧ cs t = Int32.toInt 6 ∧ t < T ∧ SM n T ps cs vs oo u ∧ MA T u (t + 1) l) ∨ (Int32.toInt r = 0 ∧ ¬ cs t = Int32.toInt 6 ∧ u = qb) := z
    rw [dc] at z
    rcases z with ⟨z1, z2, z3, z4, z5⟩ | ⟨z1, z2, z3⟩
    · have hpos := tk_pos hK t z3
      refine d2_rif (fun c => by rw [c] at z1; omega) (fun _ => d2_lif (fun c => ?_) (fun _ => d2_lif (fun _ => d2_lB (c_wd10 hK qa h1 h2) (fun r1 q5 w => ?_)) (fun c => absurd h2.1 c)))
      · have := Int32.le_iff_toInt_le.mp c
        have := h1.2.1
        omega
      · obtain ⟨w1, w2⟩ := w
        replace w1 : q5 = qa := w1
        replace w2 : (Int32.toInt r1 = 1 ∧ cs t = 6) ∨ (Int32.toInt r1 = 0 ∧ ¬ cs t = 6) := w2
        subst w1
        refine d2_lif (fun c => by rw [c] at w2; omega) (fun _ => d2_lG (fun _ => d2_lG (fun _ => d2_lV (c_emit q5 _ _) (fun q8 c8 => ?_))))
        refine d2_lV (c_step hK q8 (h1.s c8) (h2.s c8) z3) (fun q6 v => ?_)
        have R1 : RR B n T ps es cs vs oo (m' + 1) (Int32.toInt x2) q6 u := Or.inl ⟨t + 1, l, by omega, v.1, v.2, z4, z5, h5, h6⟩
        refine d2_VV (r_plain hK hoo hk hf x2 hp0 hp8 dF dF (m' + 1) (m' + 1) q6 u 0 0 (Nat.le_refl _) R1 (by omega) (by omega)) (fun q9 q10 R2 => ?_)
        refine d2_lG (fun _ => d2_lV (c_leap q9 _ _) (fun q13 cc => ?_))
        have t1 : Int32.toInt (x1 + 1) = Int32.toInt x1 + 1 := ti_add rfl d1 (by have := hK.1; omega) (by have := hK.1; omega)
        exact hkk (q13, x1 + 1) (q10, x2) ⟨rfl, m' + 1, by omega, R2.s cc, by show 0 ≤ Int32.toInt (x1 + 1); omega, by show Int32.toInt (x1 + 1) ≤ _; omega⟩
    · subst z3
      have R2 : RR B n T ps es cs vs oo m (Int32.toInt x2) qa u := Or.inl ⟨t, l, by omega, h1, h2, h3, h4, h5, h6⟩
      refine d2_rif (fun _ => d2_lif (fun _ => d2_some R2) (fun _ => d2_lif (fun _ => d2_lB (c_wd10 hK qa h1 h2) (fun r1 q5 w => ?_)) (fun _ => d2_some R2))) (fun c => absurd (Int32.toInt_inj.mp (z1.trans d0.symm)) c)
      obtain ⟨w1, w2⟩ := w
      replace w1 : q5 = qa := w1
      replace w2 : (Int32.toInt r1 = 1 ∧ cs t = 6) ∨ (Int32.toInt r1 = 0 ∧ ¬ cs t = 6) := w2
      subst w1
      refine d2_lif (fun _ => d2_some R2) (fun c => ?_)
      rcases w2 with w2 | w2
      · exact absurd w2.2 z2
      · exact absurd (Int32.toInt_inj.mp (w2.1.trans d0.symm)) c
  · refine d2_rB (m_takesF qb 6 h2) (fun r u z => ?_)
    obtain ⟨z1, z2⟩ := z
    replace z2 : u = qb := z2
    replace z1 : Int32.toInt r = 0 := z1
    subst z2
    refine d2_rif (fun _ => d2_lif (fun _ => d2_some (Or.inr ⟨f, h1, h2⟩)) (fun _ => d2_lif (fun c => absurd c (i32_ne h1.1 h1.2)) (fun _ => d2_some (Or.inr ⟨f, h1, h2⟩)))) (fun c => absurd (Int32.toInt_inj.mp (z1.trans d0.symm)) c)
theorem r_test (hK : TKS B n T ps es cs vs) (hoo : oo = 0 ∨ oo = 1) {kT : dK → Option dK} {kT2 : dS → Int32 → Option dS} (hk : ∀ (m : Nat) (q : dK) (q2 : dS) (p : Int32), 0 ≤ Int32.toInt p → Int32.toInt p ≤ 8 → RR B n T ps es cs vs oo m (Int32.toInt p) q q2 → d2 (kT q) (kT2 q2 p) (RR B n T ps es cs vs oo m (Int32.toInt p))) (hf : ∀ (f : Int) (q : dK), CF q f → dAll (kT q) (fun o => CF o f)) {m : Nat} (q : dK) (q2 : dS) (p1 : Int32) (hp0 : 0 ≤ Int32.toInt p1) (hp8 : Int32.toInt p1 ≤ 8) (h : RR B n T ps es cs vs oo m (Int32.toInt p1) q q2) :
    d2 (zX4_readTest_s24_o kT q) (zX10_readTest_o kT2 q2 p1) (RR B n T ps es cs vs oo m (Int32.toInt p1)) := by
  have d0 : Int32.toInt 0 = 0 := by decide
  have d1 : Int32.toInt 1 = 1 := by decide
  have dc : Int32.toInt 5 = 5 := by decide
  unfold zX4_readTest_s24_o zX10_readTest_o
  refine d2_VV (r_both hK hoo hk hf q q2 p1 hp0 hp8 h) (fun q3 q4 R => ?_)
  unfold zX4_readTest_s24_6 zX10_readTest_5
  refine d2_fix (fun (a : dK × Int32) (a2 : dS × Int32) => a2.2 = p1 ∧ ∃ m' : Nat, m ≤ m' ∧ RR B n T ps es cs vs oo m' (Int32.toInt p1) a.1 a2.1 ∧ 0 ≤ Int32.toInt a.2 ∧ Int32.toInt a.2 ≤ (m' : Int)) ?_ dF dF _ _ ⟨rfl, m, Nat.le_refl _, R, by show 0 ≤ Int32.toInt 0; omega, by show Int32.toInt 0 ≤ _; omega⟩
  intro k k2 hkk a a2 ha
  obtain ⟨qa, x1⟩ := a
  obtain ⟨qb, x2⟩ := a2
  obtain ⟨a1, m', a3, a4, a5, a6⟩ := ha
  replace a1 : x2 = p1 := a1
  replace a4 : RR B n T ps es cs vs oo m' (Int32.toInt p1) qa qb := a4
  replace a5 : 0 ≤ Int32.toInt x1 := a5
  replace a6 : Int32.toInt x1 ≤ (m' : Int) := a6
  subst a1
  show d2 (zX4_readTest_s24_6b kT (fun q x1 => k (q, x1)) qa x1) (zX10_readTest_5b kT2 (fun q x1 => k2 (q, x1)) qb x2) _
  unfold zX4_readTest_s24_6b zX4_readTest_s24_73 zX10_readTest_5b
  rcases a4 with ⟨t, l, hm, h1, h2, h3, h4, h5, h6⟩ | ⟨f, h1, h2⟩
  · refine d2_rB (m_takes hK qb 5 h3 h4 (by decide)) (fun r u z => ?_)
    replace z : (Int32.toInt r = 1 ∧ cs t = Int32.toInt 5 ∧ t < T ∧ SM n T ps cs vs oo u ∧ MA T u (t + 1) l) ∨ (Int32.toInt r = 0 ∧ ¬ cs t = Int32.toInt 5 ∧ u = qb) := z
    rw [dc] at z
    rcases z with ⟨z1, z2, z3, z4, z5⟩ | ⟨z1, z2, z3⟩
    · have hpos := tk_pos hK t z3
      refine d2_rif (fun c => by rw [c] at z1; omega) (fun _ => d2_lif (fun c => ?_) (fun _ => d2_lif (fun _ => d2_lB (c_wd11 hK qa h1 h2) (fun r1 q5 w => ?_)) (fun c => absurd h2.1 c)))
      · have := Int32.le_iff_toInt_le.mp c
        have := h1.2.1
        omega
      · obtain ⟨w1, w2⟩ := w
        replace w1 : q5 = qa := w1
        replace w2 : (Int32.toInt r1 = 1 ∧ cs t = 5) ∨ (Int32.toInt r1 = 0 ∧ ¬ cs t = 5) := w2
        subst w1
        refine d2_lif (fun c => by rw [c] at w2; omega) (fun _ => d2_lG (fun _ => d2_lG (fun _ => d2_lV (c_emit q5 _ _) (fun q8 c8 => ?_))))
        refine d2_lV (c_step hK q8 (h1.s c8) (h2.s c8) z3) (fun q6 v => ?_)
        have R1 : RR B n T ps es cs vs oo (m' + 1) (Int32.toInt x2) q6 u := Or.inl ⟨t + 1, l, by omega, v.1, v.2, z4, z5, h5, h6⟩
        refine d2_VV (r_both hK hoo hk hf q6 u x2 hp0 hp8 R1) (fun q9 q10 R2 => ?_)
        refine d2_lG (fun _ => d2_lV (c_leap q9 _ _) (fun q13 cc => ?_))
        have t1 : Int32.toInt (x1 + 1) = Int32.toInt x1 + 1 := ti_add rfl d1 (by have := hK.1; omega) (by have := hK.1; omega)
        exact hkk (q13, x1 + 1) (q10, x2) ⟨rfl, m' + 1, by omega, R2.s cc, by show 0 ≤ Int32.toInt (x1 + 1); omega, by show Int32.toInt (x1 + 1) ≤ _; omega⟩
    · subst z3
      have R2 : RR B n T ps es cs vs oo m (Int32.toInt x2) qa u := Or.inl ⟨t, l, by omega, h1, h2, h3, h4, h5, h6⟩
      refine d2_rif (fun _ => d2_lif (fun _ => d2_some R2) (fun _ => d2_lif (fun _ => d2_lB (c_wd11 hK qa h1 h2) (fun r1 q5 w => ?_)) (fun _ => d2_some R2))) (fun c => absurd (Int32.toInt_inj.mp (z1.trans d0.symm)) c)
      obtain ⟨w1, w2⟩ := w
      replace w1 : q5 = qa := w1
      replace w2 : (Int32.toInt r1 = 1 ∧ cs t = 5) ∨ (Int32.toInt r1 = 0 ∧ ¬ cs t = 5) := w2
      subst w1
      refine d2_lif (fun _ => d2_some R2) (fun c => ?_)
      rcases w2 with w2 | w2
      · exact absurd w2.2 z2
      · exact absurd (Int32.toInt_inj.mp (w2.1.trans d0.symm)) c
  · refine d2_rB (m_takesF qb 5 h2) (fun r u z => ?_)
    obtain ⟨z1, z2⟩ := z
    replace z2 : u = qb := z2
    replace z1 : Int32.toInt r = 0 := z1
    subst z2
    refine d2_rif (fun _ => d2_lif (fun _ => d2_some (Or.inr ⟨f, h1, h2⟩)) (fun _ => d2_lif (fun c => absurd c (i32_ne h1.1 h1.2)) (fun _ => d2_some (Or.inr ⟨f, h1, h2⟩)))) (fun c => absurd (Int32.toInt_inj.mp (z1.trans d0.symm)) c)
theorem r_testN (hK : TKS B n T ps es cs vs) (hoo : oo = 0 ∨ oo = 1) : ∀ (a b : Nat) (m : Nat) (q : dK) (q2 : dS) (p : Int32), 0 ≤ Int32.toInt p → Int32.toInt p ≤ 8 → RR B n T ps es cs vs oo m (Int32.toInt p) q q2 → d2 (zX4_readTest_s24 a q) (zX10_readTest b q2 p) (RR B n T ps es cs vs oo m (Int32.toInt p)) := by
  intro a
  induction a with
  | zero => intro b m q q2 p _ _ _ o o2 e; cases e
  | succ a ih =>
    intro b
    cases b with
    | zero => intro m q q2 p _ _ _ o o2 _ e; cases e
    | succ b => intro m q q2 p h0 h8 h; exact r_test hK hoo (kT := zX4_readTest_s24 a) (kT2 := zX10_readTest b) (ih b) (fun f q hq => f_testN a q hq) q q2 p h0 h8 h
end R8

