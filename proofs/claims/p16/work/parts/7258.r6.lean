/-! both sides at a token: sums -/
section R6
variable {B : Nat → Int} {n T : Nat} {ps es : Nat → Nat} {cs vs : Nat → Int} {oo : Int}
theorem m_num (hK : TKS B n T ps es cs vs) (q : dS) (p1 p2 : Int32) {t : Nat} {l : Int} (hs : SM n T ps cs vs oo q) (h : MA T q t l) : dAll (zX10_mustNumber q p1 p2) (fun o => (cs t = 50 ∧ Int32.toInt p1 ≤ vs t ∧ vs t ≤ Int32.toInt p2 ∧ t < T ∧ SM n T ps cs vs oo o ∧ MA T o (t + 1) l) ∨ (¬ (cs t = 50 ∧ Int32.toInt p1 ≤ vs t ∧ vs t ≤ Int32.toInt p2) ∧ MF o ((stP n T ps t : Nat) : Int))) := by
  have d0 : Int32.toInt 0 = 0 := by decide
  have d1 : Int32.toInt 1 = 1 := by decide
  have d50 : Int32.toInt 50 = 50 := by decide
  have h3 := h.2.2.1
  have hT := h.2.1
  have h38 : ¬ (cs t = 50 ∧ Int32.toInt p1 ≤ vs t ∧ vs t ≤ Int32.toInt p2) → dAll (zX10_mustNumber_38 q) (fun o => (cs t = 50 ∧ Int32.toInt p1 ≤ vs t ∧ vs t ≤ Int32.toInt p2 ∧ t < T ∧ SM n T ps cs vs oo o ∧ MA T o (t + 1) l) ∨ (¬ (cs t = 50 ∧ Int32.toInt p1 ≤ vs t ∧ vs t ≤ Int32.toInt p2) ∧ MF o ((stP n T ps t : Nat) : Int))) := by
    intro hn
    unfold zX10_mustNumber_38 zX10_mustNumber_42 zX10_mustNumber_59
    refine dA_V (m_faults q hs h) (fun q3 w => dA_B (m_fineF q3 w) (fun r1 q4 z => ?_))
    obtain ⟨z1, z2⟩ := z
    replace z1 : q4 = q3 := z1
    replace z2 : Int32.toInt r1 = 0 := z2
    subst z1
    exact dA_eq (fun _ _ => dA_some (Or.inr ⟨hn, w⟩)) (fun _ c => absurd (z2.trans d0.symm) c)
  unfold zX10_mustNumber
  refine dA_B (m_fine q h) (fun r1 q3 z => ?_)
  obtain ⟨z1, z2⟩ := z
  replace z1 : q3 = q := z1
  replace z2 : Int32.toInt r1 = 1 := z2
  subst z1
  refine dA_eq (fun _ c => by omega) (fun _ _ => dA_G (fun _ => dA_L (fun v5 e5 => ?_)))
  have n1 := cl_eq (i := q3.1 0 19) (by omega)
  have ct : Int32.toNatClampNeg (q3.1 0 19) = t := by omega
  have ev : Int32.toInt v5 = cs t := by rw [e5, ct]; exact (hs.1 t hT).1
  refine dA_eq (fun _ c5 => dA_G (fun _ => dA_L (fun v7 e7 => ?_))) (fun _ c5 => h38 (fun z => c5 (by omega)))
  have ev7 : Int32.toInt v7 = vs t := by rw [e7, ct]; exact (hs.1 t hT).2.1
  unfold zX10_lies zX10_lies_14 zX10_lies_15
  have hl : dAll (if v7 < p1 then dG (dbl 0) (some (0 : Int32)) else if p2 < v7 then dG (dbl 0) (some (0 : Int32)) else dG (dbl 1) (some (1 : Int32))) (fun r => (Int32.toInt r = 1 ∧ Int32.toInt p1 ≤ vs t ∧ vs t ≤ Int32.toInt p2) ∨ (Int32.toInt r = 0 ∧ ¬ (Int32.toInt p1 ≤ vs t ∧ vs t ≤ Int32.toInt p2))) :=
    dA_lt (fun c => dA_G (fun _ => dA_some (Or.inr ⟨d0, by omega⟩))) (fun c => dA_lt (fun c2 => dA_G (fun _ => dA_some (Or.inr ⟨d0, by omega⟩))) (fun c2 => dA_G (fun _ => dA_some (Or.inl ⟨d1, by omega, by omega⟩))))
  refine dA_V hl (fun r8 w => ?_)
  refine dA_eq (fun _ c8 => h38 (fun z => ?_)) (fun _ c8 => ?_)
  · rcases w with w | w
    · omega
    · exact w.2 z.2
  · have ww : Int32.toInt p1 ≤ vs t ∧ vs t ≤ Int32.toInt p2 := by
      rcases w with w | w
      · exact w.2
      · omega
    have ht : t < T := cs_lt hK hT (by omega)
    unfold zX10_mustNumber_42 zX10_mustNumber_59
    refine dA_B (m_fine q3 h) (fun r2 q4 y => ?_)
    obtain ⟨y1, y2⟩ := y
    replace y1 : q4 = q3 := y1
    replace y2 : Int32.toInt r2 = 1 := y2
    subst y1
    refine dA_eq (fun _ c => by omega) (fun _ _ => dA_L (fun q5 e6 => dA_some (Or.inl ?_)))
    have z := m_next q4 hs h ht hK.2.1
    rw [← e6] at z
    exact ⟨by omega, ww.1, ww.2, ht, z.1, z.2⟩
theorem r_place (hK : TKS B n T ps es cs vs) {m : Nat} {d : Int} {q : dK} {q2 : dS} (y0 : Int32) (h : RR B n T ps es cs vs oo m d q q2) : d2 (zX4_readPlace_s24 q y0) (zX10_mustNumber q2 0 5) (RR B n T ps es cs vs oo m d) := by
  have d0 : Int32.toInt 0 = 0 := by decide
  have d2' : Int32.toInt 2 = 2 := by decide
  have d5 : Int32.toInt 5 = 5 := by decide
  have d6 : Int32.toInt 6 = 6 := by decide
  rcases h with ⟨t, l, hm, h1, h2, h3, h4, h5, h6⟩ | ⟨f, h1, h2⟩
  · obtain ⟨k1, k2, k3⟩ := tk_num hK h2
    have hl : dAll (zX4_readPlace_s24 q y0) (fun o => (cs t = 50 ∧ 0 ≤ vs t ∧ vs t ≤ 5 ∧ SC B n oo o ∧ CQ B n T ps es o (t + 1) d l) ∨ (¬ (cs t = 50 ∧ 0 ≤ vs t ∧ vs t ≤ 5) ∧ CF o ((stP n T ps t : Nat) : Int))) := by
      have h17 : ¬ (cs t = 50 ∧ 0 ≤ vs t ∧ vs t ≤ 5) → dAll (zX4_readPlace_s24_17 q) (fun o => (cs t = 50 ∧ 0 ≤ vs t ∧ vs t ≤ 5 ∧ SC B n oo o ∧ CQ B n T ps es o (t + 1) d l) ∨ (¬ (cs t = 50 ∧ 0 ≤ vs t ∧ vs t ≤ 5) ∧ CF o ((stP n T ps t : Nat) : Int))) := by
        intro hn
        unfold zX4_readPlace_s24_17
        exact dA_V (c_fail q h2) (fun o w => dA_some (Or.inr ⟨hn, w⟩))
      unfold zX4_readPlace_s24
      refine dA_eq (fun _ c => dA_lt (fun c2 => dA_G (fun _ => dA_V (c_emit q _ _) (fun q4 w => ?_))) (fun c2 => h17 (fun z => ?_))) (fun _ c => h17 (fun z => ?_))
      · obtain ⟨j1, j2, j3, j4⟩ := k3 (k1.mp (by omega))
        refine dA_V (c_step hK q4 (h1.s w) (h2.s w) j1) (fun o w2 => dA_some (Or.inl ⟨k1.mp (by omega), j4, (j2 5 (by decide)).mp (by omega), w2.1, w2.2⟩))
      · obtain ⟨j1, j2, j3, j4⟩ := k3 z.1
        have := (j2 5 (by decide)).mpr z.2.2
        omega
      · exact c ((k1.mpr z.1).trans d2'.symm)
    refine d2_of hl (m_num hK q2 0 5 h3 h4) (fun a b ha hb => ?_)
    rw [d0, d5] at hb
    rcases ha with ha | ha
    · rcases hb with hb | hb
      · exact Or.inl ⟨t + 1, l, by omega, ha.2.2.2.1, ha.2.2.2.2, hb.2.2.2.2.1, hb.2.2.2.2.2, h5, h6⟩
      · exact absurd ⟨ha.1, ha.2.1, ha.2.2.1⟩ hb.1
    · rcases hb with hb | hb
      · exact absurd ⟨hb.1, hb.2.1, hb.2.2.1⟩ ha.1
      · exact Or.inr ⟨_, ha.2, hb.2⟩
  · exact d2_of (f_place q y0 h1) (g_num q2 0 5 h2) (fun a b ha hb => Or.inr ⟨f, ha, hb⟩)
/-- a part's leaf: a number, a word -/
theorem r_leaf (hK : TKS B n T ps es cs vs) {m : Nat} {kS : dK → Option dK} {kS2 : dS → Int32 → Option dS} {t : Nat} {d l : Int} {q : dK} {q2 : dS} (hm : m ≤ t) (h1 : SC B n oo q) (h2 : CQ B n T ps es q t d l) (h3 : SM n T ps cs vs oo q2) (h4 : MA T q2 t l) (h5 : 0 ≤ l) (h6 : l ≤ 50) (x1 y0 v5 : Int32) (ev : Int32.toInt v5 = cs t) (ht : t < T)
    (hc : (Int32.toInt y0 = 1 ∧ cs t = 50) ∨ (Int32.toInt y0 = 0 ∧ oo = 0 ∧ 8 ≤ cs t ∧ cs t ≤ 16) ∨ (Int32.toInt y0 = 0 ∧ oo = 1 ∧ ((Int32.toInt x1 < 5 ∧ 16 ≤ cs t ∧ cs t ≤ 20) ∨ (Int32.toInt x1 = 5 ∧ cs t = 21) ∨ (Int32.toInt x1 = 6 ∧ cs t = 15)))) :
    d2 (zX4_readPart_s24_89 kS q x1 y0) (zX10_readPart_111 kS2 q2 v5) (RR B n T ps es cs vs oo m d) := by
  have d0 : Int32.toInt 0 = 0 := by decide
  have d1 : Int32.toInt 1 = 1 := by decide
  have d5 : Int32.toInt 5 = 5 := by decide
  have d50 : Int32.toInt 50 = 50 := by decide
  have d21 : Int32.toInt 21 = 21 := by decide
  have d15 : Int32.toInt 15 = 15 := by decide
  have e8 : Int32.toInt (q.1 24 8) = l := h2.2.2.2.2.2.2.1
  have e20 := h4.2.2.2
  by_cases cl : l = 50
  · have hL : dAll (zX4_readPart_s24_89 kS q x1 y0) (fun o => CF o ((stP n T ps t : Nat) : Int)) := by
      unfold zX4_readPart_s24_89 zX4_readPart_s24_98
      exact dA_lt (fun c => by omega) (fun _ => dA_V (c_fail q h2) (fun o w => dA_some w))
    have hR : dAll (zX10_readPart_111 kS2 q2 v5) (fun o => MF o ((stP n T ps t : Nat) : Int)) := by
      have hl : dAll (zX10_leaf q2) (fun o => MF o ((stP n T ps t : Nat) : Int)) := by
        unfold zX10_leaf
        refine dA_eq (fun _ _ => dA_V (m_faults q2 h3 h4) (fun o w => ?_)) (fun _ c => by omega)
        unfold zX10_leaf_13 zX10_leaf_40
        refine dA_L (fun qa ea => ?_)
        have wa : MF qa ((stP n T ps t : Nat) : Int) := ⟨by rw [ea, dui_n (by decide)]; exact w.1, w.2⟩
        refine dA_B (m_fineF qa wa) (fun r2 q4 z => ?_)
        obtain ⟨z1, z2⟩ := z
        replace z1 : q4 = qa := z1
        replace z2 : Int32.toInt r2 = 0 := z2
        subst z1
        exact dA_eq (fun _ _ => dA_some wa) (fun _ c => absurd (z2.trans d0.symm) c)
      unfold zX10_readPart_111 zX10_readPart_134 zX10_readPart_147
      have hn : ∀ q3 : dS, MF q3 ((stP n T ps t : Nat) : Int) → dAll (dV (zX10_mustNumber q3 0 5) (fun q3 => some q3)) (fun o => MF o ((stP n T ps t : Nat) : Int)) := fun q3 w => dA_V (g_num q3 0 5 w) (fun o w2 => dA_some w2)
      exact dA_V hl (fun q3 w => dA_if (fun _ => dA_some w) (fun _ => dA_if (fun _ => hn q3 w) (fun _ => dA_if (fun _ => hn q3 w) (fun _ => dA_some w))))
    exact d2_of hL hR (fun a b ha hb => Or.inr ⟨_, ha, hb⟩)
  · unfold zX4_readPart_s24_89 zX10_readPart_111
    have hleaf : dAll (zX10_leaf q2) (fun o => SM n T ps cs vs oo o ∧ MA T o (t + 1) (l + 1)) := by
      unfold zX10_leaf
      refine dA_eq (fun _ c => by omega) (fun _ _ => ?_)
      unfold zX10_leaf_13 zX10_leaf_40
      refine dA_L (fun qa ea => ?_)
      have sa : SM n T ps cs vs oo qa := by
        rw [ea]
        exact ⟨fun j hj => by rw [dui_o (by decide), dui_o (by decide), dui_o (by decide)]; exact h3.1 j hj, by rw [dui_n (by decide)]; exact h3.2.1, by rw [dui_n (by decide), dui_n (by decide), dui_n (by decide)]; exact h3.2.2⟩
      have ma : MA T qa t (l + 1) := by
        rw [ea]
        exact ⟨by rw [dui_n (by decide)]; exact h4.1, h4.2.1, by rw [dui_n (by decide)]; exact h4.2.2.1, by rw [dui_e]; exact ti_add e20 d1 (by omega) (by omega)⟩
      refine dA_B (m_fine qa ma) (fun r2 q4 z => ?_)
      obtain ⟨z1, z2⟩ := z
      replace z1 : q4 = qa := z1
      replace z2 : Int32.toInt r2 = 1 := z2
      subst z1
      refine dA_eq (fun _ c => by omega) (fun _ _ => dA_L (fun q5 e6 => dA_some ?_))
      have z := m_next q4 sa ma ht hK.2.1
      rw [← e6] at z
      exact z
    refine d2_lif (fun _ => d2_lL (fun qa ea => ?_)) (fun c => absurd (Int32.lt_iff_toInt_lt.mpr (by omega)) c)
    have k8 := c_set8 q (q.1 24 8 + 1 : Int32) h1 h2
    rw [← ea, ti_add e8 d1 (by omega) (by omega)] at k8
    refine d2_lV (c_step hK qa k8.1 k8.2 ht) (fun q4 w => d2_rV hleaf (fun q5 w5 => ?_))
    have R : RR B n T ps es cs vs oo m d q4 q5 := Or.inl ⟨t + 1, l + 1, by omega, w.1, w.2, w5.1, w5.2, by omega, by omega⟩
    have RS : ∀ o : dK, CS q4 o → RR B n T ps es cs vs oo m d o q5 := fun o k => Or.inl ⟨t + 1, l + 1, by omega, w.1.s k, w.2.s k, w5.1, w5.2, by omega, by omega⟩
    have h168 : d2 (zX4_readPart_s24_168 kS q4 x1) (some q5) (RR B n T ps es cs vs oo m d) := by
      unfold zX4_readPart_s24_168 zX4_readPart_s24_177
      exact d2_lG (fun _ => d2_lV (c_emit q4 _ _) (fun o k => d2_some (RS o k)))
    have h162 : ∀ y : Int32, d2 (zX4_readPart_s24_162 kS q4 y) (zX10_readPart_134 kS2 q5) (RR B n T ps es cs vs oo m d) := by
      intro y
      unfold zX4_readPart_s24_162 zX4_readPart_s24_177 zX10_readPart_134 zX10_readPart_147
      exact d2_VV (r_place hK y R) (fun a b w => d2_some w)
    have e2 := w.1.2.2
    have e10 := w5.1.2.2
    unfold zX10_readPart_147
    rcases hc with hc | hc | hc
    · refine d2_lif (fun c => by rw [c] at hc; omega) (fun _ => ?_)
      unfold zX4_readPart_s24_177
      refine d2_lG (fun _ => d2_lV (c_emit q4 _ _) (fun o k => ?_))
      exact d2_rif (fun _ => d2_some (RS o k)) (fun _ => d2_rif (fun c => by rw [c] at ev; omega) (fun _ => d2_rif (fun c => by rw [c] at ev; omega) (fun _ => d2_some (RS o k))))
    · refine d2_lif (fun _ => d2_lif (fun _ => d2_rif (fun _ => h168) (fun c => ?_)) (fun c => ?_)) (fun c => absurd (Int32.toInt_inj.mp (hc.1.trans d0.symm)) c)
      · exact absurd (Int32.toInt_inj.mp (show Int32.toInt (q5.1 0 10) = Int32.toInt 0 by omega)) c
      · exact absurd (Int32.toInt_inj.mp (show Int32.toInt (q4.1 24 2) = Int32.toInt 0 by omega)) c
    · refine d2_lif (fun _ => d2_lif (fun c => by rw [c] at e2; omega) (fun _ => d2_rif (fun c => by rw [c] at e10; omega) (fun _ => ?_))) (fun c => absurd (Int32.toInt_inj.mp (hc.1.trans d0.symm)) c)
      obtain ⟨-, -, hc⟩ := hc
      rcases hc with hc | hc | hc
      · refine d2_lif (fun _ => d2_rif (fun c => by rw [c] at ev; omega) (fun _ => d2_rif (fun c => by rw [c] at ev; omega) (fun _ => h168))) (fun c => absurd (Int32.lt_iff_toInt_lt.mpr (by omega)) c)
      · refine d2_lif (fun c => by have := Int32.lt_iff_toInt_lt.mp c; omega) (fun _ => d2_lif (fun _ => d2_rif (fun _ => h162 5) (fun c => absurd (Int32.toInt_inj.mp (by omega)) c)) (fun c => absurd (Int32.toInt_inj.mp (by omega)) c))
      · refine d2_lif (fun c => by have := Int32.lt_iff_toInt_lt.mp c; omega) (fun _ => d2_lif (fun c => by rw [c] at hc; omega) (fun _ => d2_rif (fun c => by rw [c] at ev; omega) (fun _ => d2_rif (fun _ => h162 11) (fun c => absurd (Int32.toInt_inj.mp (by omega)) c))))
theorem r_part (hK : TKS B n T ps es cs vs) (hoo : oo = 0 ∨ oo = 1) {kS : dK → Option dK} {kS2 : dS → Int32 → Option dS} (hk : ∀ (m : Nat) (q : dK) (q2 : dS) (p : Int32), 0 ≤ Int32.toInt p → Int32.toInt p ≤ 8 → RR B n T ps es cs vs oo m (Int32.toInt p) q q2 → d2 (kS q) (kS2 q2 p) (RR B n T ps es cs vs oo m (Int32.toInt p))) (hf : ∀ (f : Int) (q : dK), CF q f → dAll (kS q) (fun o => CF o f)) {m : Nat} (q : dK) (q2 : dS) (p1 : Int32) (hp0 : 0 ≤ Int32.toInt p1) (hp8 : Int32.toInt p1 ≤ 8) (h : RR B n T ps es cs vs oo m (Int32.toInt p1) q q2) :
    d2 (zX4_readPart_s24 kS q) (zX10_readPart kS2 q2 p1) (RR B n T ps es cs vs oo m (Int32.toInt p1)) := by
  have d0 : Int32.toInt 0 = 0 := by decide
  have d1 : Int32.toInt 1 = 1 := by decide
  have dm : Int32.toInt (-1) = -1 := by decide
  have d2' : Int32.toInt 2 = 2 := by decide
  have d8 : Int32.toInt 8 = 8 := by decide
  have d50 : Int32.toInt 50 = 50 := by decide
  have d91 : Int32.toInt 91 = 91 := by decide
  have d1000 : Int32.toInt 1000 = 1000 := by decide
  rcases h with ⟨t, l, hm, h1, h2, h3, h4, h5, h6⟩ | ⟨f, h1, h2⟩
  · unfold zX4_readPart_s24 zX10_readPart
    refine d2_lB (c_sign hK q 91 h1 h2 (by decide) (by decide)) (fun r1 q3 z => ?_)
    obtain ⟨z1, z2⟩ := z
    replace z1 : q3 = q := z1
    replace z2 : (Int32.toInt r1 = 1 ∧ cs t = 100 + Int32.toInt 91) ∨ (Int32.toInt r1 = 0 ∧ ¬ cs t = 100 + Int32.toInt 91) := z2
    subst z1
    refine d2_rB (m_fine q2 h4) (fun r2 q4 y => ?_)
    obtain ⟨y1, y2⟩ := y
    replace y1 : q4 = q2 := y1
    replace y2 : Int32.toInt r2 = 1 := y2
    subst y1
    refine d2_rif (fun c => by rw [c] at y2; omega) (fun _ => d2_rG (fun _ => d2_rL (fun v5 e5 => d2_rV (m_sign 91) (fun r6 e6 => ?_))))
    have h4t := h4.2.2.1
    have n1 := cl_eq (i := q4.1 0 19) (by omega)
    have ct : Int32.toNatClampNeg (q4.1 0 19) = t := by omega
    have ev : Int32.toInt v5 = cs t := by rw [e5, ct]; exact (h3.1 t h4.2.1).1
    have ev6 : Int32.toInt r6 = 191 := by rw [e6]; decide
    have e9 : Int32.toInt (q3.1 24 9) = Int32.toInt p1 := h2.2.2.2.2.2.2.2
    refine d2_rif (fun c5 => ?_) (fun c5 => ?_)
    · -- a bracket
      have c191 : cs t = 191 := by rw [← ev, c5]; exact ev6
      have ht : t < T := cs_lt hK h4.2.1 (by omega)
      refine d2_lif (fun c => by rw [c] at z2; omega) (fun _ => ?_)
      refine d2_rif (fun c8 => ?_) (fun c8 => ?_)
      · have hL : dAll (zX4_openBracket_s24 q3) (fun o => Int32.toInt o.1 = 0 ∧ CF o.2 ((stP n T ps t : Nat) : Int)) := by
          unfold zX4_openBracket_s24
          exact dA_lt (fun c => by rw [c8] at e9; omega) (fun _ => dA_V (c_fail q3 h2) (fun o w => dA_some ⟨d0, w⟩))
        refine d2_lB hL (fun r7 q9 w => d2_lif (fun _ => ?_) (fun c => absurd (Int32.toInt_inj.mp (w.1.trans d0.symm)) c))
        unfold zX4_readPart_s24_36 zX10_readPart_37
        refine d2_rV (m_faults q4 h3 h4) (fun q5 w5 => d2_rB (m_fineF q5 w5) (fun r9 q6 u => ?_))
        obtain ⟨u1, u2⟩ := u
        replace u1 : q6 = q5 := u1
        replace u2 : Int32.toInt r9 = 0 := u2
        subst u1
        exact d2_rif (fun _ => d2_some (Or.inr ⟨_, w.2, w5⟩)) (fun c => absurd (Int32.toInt_inj.mp (u2.trans d0.symm)) c)
      · have hlt : Int32.toInt p1 < 8 := by
          rcases Int.lt_or_le (Int32.toInt p1) 8 with c | c
          · exact c
          · exact absurd (Int32.toInt_inj.mp (show Int32.toInt p1 = Int32.toInt 8 by omega)) c8
        have tp : Int32.toInt (p1 + 1 : Int32) = Int32.toInt p1 + 1 := ti_add rfl d1 (by omega) (by omega)
        have hL : dAll (zX4_openBracket_s24 q3) (fun o => Int32.toInt o.1 = 1 ∧ SC B n oo o.2 ∧ CQ B n T ps es o.2 (t + 1) (Int32.toInt (p1 + 1 : Int32)) l) := by
          unfold zX4_openBracket_s24
          refine dA_lt (fun _ => dA_L (fun qa ea => ?_)) (fun c => by omega)
          have k9 := c_set9 q3 (q3.1 24 9 + 1 : Int32) h1 h2
          rw [← ea, ti_add e9 d1 (by omega) (by omega), ← tp] at k9
          exact dA_V (c_step hK qa k9.1 k9.2 ht) (fun o w => dA_some ⟨d1, w.1, w.2⟩)
        refine d2_lB hL (fun r7 q9 w => d2_lif (fun c => by have z : Int32.toInt r7 = 1 := w.1; rw [c] at z; omega) (fun _ => ?_))
        unfold zX10_readPart_37
        refine d2_rB (m_fine q4 h4) (fun r9 q6 u => ?_)
        obtain ⟨u1, u2⟩ := u
        replace u1 : q6 = q4 := u1
        replace u2 : Int32.toInt r9 = 1 := u2
        subst u1
        refine d2_rif (fun c => by rw [c] at u2; omega) (fun _ => d2_rL (fun q5 e51 => ?_))
        have mz := m_next q6 h3 h4 ht hK.2.1
        rw [← e51] at mz
        refine d2_VV (hk m q9 q5 (p1 + 1 : Int32) (by omega) (by omega) (Or.inl ⟨t + 1, l, by omega, w.2.1, w.2.2, mz.1, mz.2, h5, h6⟩)) (fun q12 q7 R => ?_)
        refine d2_lL (fun q13 e13 => d2_rV (m_sign 93) (fun r8 e8 => ?_))
        have R13 : RR B n T ps es cs vs oo m (Int32.toInt p1) q13 q7 := by
          rcases R with ⟨t2, l2, g0, g1, g2, g3, g4, g5, g6⟩ | ⟨f, g1, g2⟩
          · have k9 := c_set9 q12 (q12.1 24 9 - 1 : Int32) g1 g2
            have e99 : Int32.toInt (q12.1 24 9) = Int32.toInt (p1 + 1 : Int32) := g2.2.2.2.2.2.2.2
            rw [← e13, ti_sub e99 d1 (by omega) (by omega), tp, show Int32.toInt p1 + 1 - 1 = Int32.toInt p1 by omega] at k9
            exact Or.inl ⟨t2, l2, g0, k9.1, k9.2, g3, g4, g5, g6⟩
          · exact Or.inr ⟨f, by rw [e13]; exact c_setF q12 24 9 _ g1 (by decide), g2⟩
        unfold zX4_readPart_s24_36 zX10_readPart_147
        exact d2_VV (r_must hK 93 r8 (by rw [e8]; decide) (by decide) (by decide) R13) (fun a b w => d2_some w)
    · -- a number, a word, or a fault
      have c191 : ¬ cs t = 191 := fun z => c5 (Int32.toInt_inj.mp (by omega))
      refine d2_lif (fun _ => ?_) (fun c => ?_)
      rotate_left
      · rcases z2 with z2 | z2
        · omega
        · exact absurd (Int32.toInt_inj.mp (z2.1.trans d0.symm)) c
      obtain ⟨k1, k2, k3⟩ := tk_num hK h2
      -- the reference
      have h10 := h3.2.2
      have hright : ∀ (X : Option dK) (P : dK → dS → Prop), ((cs t = 50 ∧ vs t ≤ 1000) ∨ (oo = 0 ∧ 8 ≤ cs t ∧ cs t ≤ 16) ∨ (oo = 1 ∧ 15 ≤ cs t ∧ cs t ≤ 21) → d2 X (zX10_readPart_111 kS2 q4 v5) P) → (¬ ((cs t = 50 ∧ vs t ≤ 1000) ∨ (oo = 0 ∧ 8 ≤ cs t ∧ cs t ≤ 16) ∨ (oo = 1 ∧ 15 ≤ cs t ∧ cs t ≤ 21)) → d2 X (zX10_readPart_143 kS2 q4) P) → d2 X (if v5 = 50 then dG (dg (q4.1 0 19) 401) (dL (q4.1 10 (Int32.toNatClampNeg (q4.1 0 19))) (fun v9 => if v9 ≤ 1000 then zX10_readPart_111 kS2 q4 v5 else zX10_readPart_95 kS2 q4 v5)) else zX10_readPart_95 kS2 q4 v5) P := by
        intro X P a b
        have h95 : ¬ (cs t = 50 ∧ vs t ≤ 1000) → d2 X (zX10_readPart_95 kS2 q4 v5) P := by
          intro hn
          unfold zX10_readPart_95
          refine d2_rif (fun c => ?_) (fun c => d2_rif (fun c2 => ?_) (fun c2 => ?_))
          · have := Int32.lt_iff_toInt_lt.mp c
            exact b (by omega)
          · have := Int32.lt_iff_toInt_lt.mp c2
            exact b (by omega)
          · have x1 : ¬ Int32.toInt v5 < Int32.toInt (q4.1 0 8) := fun z => c (Int32.lt_iff_toInt_lt.mpr z)
            have x2 : ¬ Int32.toInt (q4.1 0 9) < Int32.toInt v5 := fun z => c2 (Int32.lt_iff_toInt_lt.mpr z)
            exact a (by omega)
        refine d2_rif (fun c => d2_rG (fun _ => d2_rL (fun v9 e9' => ?_))) (fun c => h95 (fun z => c (Int32.toInt_inj.mp (by omega))))
        have ev9 : Int32.toInt v9 = vs t := by rw [e9', ct]; exact (h3.1 t h4.2.1).2.1
        have ec : Int32.toInt v5 = 50 := by rw [c]; exact d50
        refine d2_rif (fun c9 => a ?_) (fun c9 => h95 (fun z => c9 (Int32.le_iff_toInt_le.mpr (by omega))))
        have := Int32.le_iff_toInt_le.mp c9
        exact Or.inl ⟨by omega, by omega⟩
      -- the class
      have hfail : d2 (zX4_readPart_s24_98 kS q3) (zX10_readPart_143 kS2 q4) (RR B n T ps es cs vs oo m (Int32.toInt p1)) := by
        unfold zX4_readPart_s24_98 zX10_readPart_143 zX10_readPart_147
        exact d2_VV (r_fail h2 h3 h4) (fun a b w => d2_some w)
      have hleft : ∀ (r4 : Int32), ((oo = 0 ∧ 0 ≤ Int32.toInt r4 ∧ 8 ≤ cs t ∧ cs t ≤ 16) ∨ (oo = 1 ∧ 0 ≤ Int32.toInt r4 ∧ ((Int32.toInt r4 < 5 ∧ 16 ≤ cs t ∧ cs t ≤ 20) ∨ (Int32.toInt r4 = 5 ∧ cs t = 21) ∨ (Int32.toInt r4 = 6 ∧ cs t = 15))) ∨ (Int32.toInt r4 = -1 ∧ (oo = 0 → ¬ (8 ≤ cs t ∧ cs t ≤ 16)) ∧ (oo = 1 → ¬ (15 ≤ cs t ∧ cs t ≤ 21)))) →
          d2 (if (q3.1 24 4) = 2 then if 1000 < (q3.1 24 7) then zX4_readPart_s24_79 kS q3 r4 0 else zX4_readPart_s24_79 kS q3 r4 1 else zX4_readPart_s24_79 kS q3 r4 0) (if v5 = 50 then dG (dg (q4.1 0 19) 401) (dL (q4.1 10 (Int32.toNatClampNeg (q4.1 0 19))) (fun v9 => if v9 ≤ 1000 then zX10_readPart_111 kS2 q4 v5 else zX10_readPart_95 kS2 q4 v5)) else zX10_readPart_95 kS2 q4 v5) (RR B n T ps es cs vs oo m (Int32.toInt p1)) := by
        intro r4 hr
        -- not a number at hand
        have hno : ¬ (cs t = 50 ∧ vs t ≤ 1000) → d2 (zX4_readPart_s24_79 kS q3 r4 0) (if v5 = 50 then dG (dg (q4.1 0 19) 401) (dL (q4.1 10 (Int32.toNatClampNeg (q4.1 0 19))) (fun v9 => if v9 ≤ 1000 then zX10_readPart_111 kS2 q4 v5 else zX10_readPart_95 kS2 q4 v5)) else zX10_readPart_95 kS2 q4 v5) (RR B n T ps es cs vs oo m (Int32.toInt p1)) := by
          intro hn
          unfold zX4_readPart_s24_79
          rcases hr with hr | hr | hr
          · refine d2_lif (fun c => by rw [c] at hr; omega) (fun _ => hright _ _ (fun _ => r_leaf hK hm h1 h2 h3 h4 h5 h6 r4 0 v5 ev (cs_lt hK h4.2.1 (by omega)) (Or.inr (Or.inl ⟨d0, hr.1, hr.2.2⟩))) (fun z => absurd (Or.inr (Or.inl ⟨hr.1, hr.2.2⟩)) z))
          · refine d2_lif (fun c => by rw [c] at hr; omega) (fun _ => hright _ _ (fun _ => r_leaf hK hm h1 h2 h3 h4 h5 h6 r4 0 v5 ev (cs_lt hK h4.2.1 (by omega)) (Or.inr (Or.inr ⟨d0, hr.1, hr.2.2⟩))) (fun z => absurd (Or.inr (Or.inr ⟨hr.1, by omega⟩)) z))
          · refine d2_lif (fun _ => d2_lif (fun _ => hright _ _ (fun z => ?_) (fun _ => hfail)) (fun c => absurd rfl c)) (fun c => absurd (Int32.toInt_inj.mp (hr.1.trans dm.symm)) c)
            exfalso
            rcases z with z | z | z
            · exact hn z
            · exact hr.2.1 z.1 z.2
            · exact hr.2.2 z.1 z.2
        refine d2_lif (fun c4 => ?_) (fun c4 => hno (fun z => c4 (Int32.toInt_inj.mp ((k1.mpr z.1).trans d2'.symm))))
        have c50 : cs t = 50 := k1.mp (by rw [c4]; exact d2')
        obtain ⟨j1, j2, j3, j4⟩ := k3 c50
        refine d2_lif (fun c7 => hno (fun z => ?_)) (fun c7 => ?_)
        · have x := Int32.lt_iff_toInt_lt.mp c7
          have y := (j2 1000 (by decide)).mpr z.2
          omega
        · have hv : vs t ≤ 1000 := (j2 1000 (by decide)).mp (by
            rcases Int.lt_or_le (Int32.toInt 1000) (Int32.toInt (q3.1 24 7)) with x | x
            · exact absurd (Int32.lt_iff_toInt_lt.mpr x) c7
            · omega)
          unfold zX4_readPart_s24_79
          refine d2_lif (fun _ => d2_lif (fun c => absurd c (by decide)) (fun _ => ?_)) (fun _ => ?_)
          · exact hright _ _ (fun _ => r_leaf hK hm h1 h2 h3 h4 h5 h6 r4 1 v5 ev j1 (Or.inl ⟨d1, c50⟩)) (fun z => absurd (Or.inl ⟨c50, hv⟩) z)
          · exact hright _ _ (fun _ => r_leaf hK hm h1 h2 h3 h4 h5 h6 r4 1 v5 ev j1 (Or.inl ⟨d1, c50⟩)) (fun z => absurd (Or.inl ⟨c50, hv⟩) z)
      have e2 := h1.2.2
      refine d2_lif (fun c2 => ?_) (fun c2 => ?_)
      · have o0 : oo = 0 := by rw [← e2, c2]; exact d0
        unfold zX4_readPart_s24_52 zX4_readPart_s24_78
        refine d2_lB (c_win3 hK q3 h1 h2) (fun r4 q6 w => ?_)
        obtain ⟨w1, w2⟩ := w
        replace w1 : q6 = q3 := w1
        replace w2 : (∃ j : Nat, j < 9 ∧ Int32.toInt r4 = (j : Int) ∧ cs t = ((wcd_3 j : Nat) : Int)) ∨ (Int32.toInt r4 = -1 ∧ ∀ j : Nat, j < 9 → ¬ cs t = ((wcd_3 j : Nat) : Int)) := w2
        subst w1
        refine hleft r4 ?_
        rcases w2 with ⟨j, j1, j2, j3⟩ | ⟨w2, w3⟩
        · have hj : ∀ j : Nat, j < 9 → 8 ≤ wcd_3 j ∧ wcd_3 j ≤ 16 := by decide
          have := hj j j1
          exact Or.inl ⟨o0, by omega, by omega, by omega⟩
        · refine Or.inr (Or.inr ⟨w2, fun _ z => ?_, fun z => by omega⟩)
          have hj : ∀ c : Nat, c < 17 → 8 ≤ c → ∃ j : Nat, j < 9 ∧ wcd_3 j = c := by decide
          obtain ⟨j, j1, j2⟩ := hj (cs t).toNat (by omega) (by omega)
          exact w3 j j1 (by omega)
      · have o1 : oo = 1 := by
          rcases hoo with z | z
          · exact absurd (Int32.toInt_inj.mp (show Int32.toInt (q3.1 24 2) = Int32.toInt 0 by omega)) c2
          · exact z
        refine d2_lB (c_win2 hK q3 h1 h2) (fun r4 q6 w => ?_)
        obtain ⟨w1, w2⟩ := w
        replace w1 : q6 = q3 := w1
        replace w2 : (∃ j : Nat, j < 7 ∧ Int32.toInt r4 = (j : Int) ∧ cs t = ((wcd_2 j : Nat) : Int)) ∨ (Int32.toInt r4 = -1 ∧ ∀ j : Nat, j < 7 → ¬ cs t = ((wcd_2 j : Nat) : Int)) := w2
        subst w1
        unfold zX4_readPart_s24_78
        refine hleft r4 ?_
        rcases w2 with ⟨j, j1, j2, j3⟩ | ⟨w2, w3⟩
        · have hj : ∀ j : Nat, j < 7 → (j < 5 ∧ 16 ≤ wcd_2 j ∧ wcd_2 j ≤ 20) ∨ (j = 5 ∧ wcd_2 j = 21) ∨ (j = 6 ∧ wcd_2 j = 15) := by decide
          have := hj j j1
          refine Or.inr (Or.inl ⟨o1, by omega, ?_⟩)
          omega
        · refine Or.inr (Or.inr ⟨w2, fun z => by omega, fun _ z => ?_⟩)
          have hj : ∀ c : Nat, c < 22 → 15 ≤ c → ∃ j : Nat, j < 7 ∧ wcd_2 j = c := by decide
          obtain ⟨j, j1, j2⟩ := hj (cs t).toNat (by omega) (by omega)
          exact w3 j j1 (by omega)
  · exact d2_of (f_part (hf f) q h1) (g_part q2 p1 h2) (fun a b ha hb => Or.inr ⟨f, ha, hb⟩)
end R6

