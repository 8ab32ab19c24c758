/-! fewest: a turn that comes closer is found; compare -/
set_option maxHeartbeats 4000000 in
theorem ok_fewest (q : dS) (p1 : Int32) (hT : TS q) : dOk (zX10_fewest q p1) (fun (o : Int32 × dS) => TS o.2 ∧ dFr [12, 16, 17, 18, 19, 20, 21, 22, 23] [22, 23, 24, 25, 37, 38] q o.2) := by
  have fs : 0 ≤ Int32.toInt (q.1 2 29) ∧ Int32.toInt (q.1 2 29) ≤ 6 := hT.1 2 29
  obtain ⟨N0, eN, hN, -⟩ := ti_nI fs.1
  have hNq : (q.1 2 29).toInt = (N0 : Int) := hN.symm
  have hN6 : N0 ≤ 6 := by omega
  have hfac := facN_le N0 hN6
  have tm1 : Int32.toInt (-1) = -1 := by decide
  unfold zX10_fewest
  refine dOk_le tm1 rfl (fun c => ?_) (fun c => dOk_some ⟨hT, dFr.rf⟩)
  refine dOk_V (ok_laysDist2 q N0 hT hNq) (fun q3 h3 => ?_)
  obtain ⟨hT3, hF3, tt3, hG3⟩ := h3
  refine dOk_B (ok_towerNow q3 hT3) (fun r4 q6 h6 => ?_)
  obtain ⟨hT6, hF6, hr40, hr41⟩ := h6
  replace hT6 : TS q6 := hT6
  replace hF6 : dFr [19] [] q3 q6 := hF6
  replace hr40 : 0 ≤ Int32.toInt r4 ∧ Int32.toInt r4 ≤ 46079 := hr40
  replace hr41 : Int32.toInt r4 < 64 * facI (Int32.toInt (q3.1 2 29)) := hr41
  have hN3 : (q3.1 2 29).toInt = (N0 : Int) := by rw [hF3.1 2 (by decide) (by decide)]; exact hNq
  rw [hN3, facI_N hN6] at hr41
  have hFq6 : dFr [12, 16, 17, 18, 19, 20, 21, 22, 23] [22, 23, 24, 25, 37, 38] q q6 := hF3.t hF6 (by decide) (by decide)
  have tt6 : tabs q6 N0 := tabs_keep tt3 (hF6.2 37 (by decide)) (hF6.2 38 (by decide)) (hF6.1 16 (by decide) (by decide)) (hF6.1 17 (by decide) (by decide)) (hF6.1 18 (by decide) (by decide))
  have hp6 : prV q6 N0 = prV q3 N0 := by
    funext u k
    unfold prV
    rw [hF6.1 20 (by decide) (by decide)]
  have hG6 : Gq (prV q6 N0) N0 (q6.1 21) := by rw [hp6, hF6.1 21 (by decide) (by decide)]; exact hG3
  have hNb : (q6.1 2 29).toInt = (N0 : Int) := by rw [hF6.1 2 (by decide) (by decide)]; exact hN3
  obtain ⟨u0, eu0, hu0, -⟩ := ti_nI hr40.1
  have n4 : Int32.toNatClampNeg r4 = u0 := by
    have : Int32.toNatClampNeg r4 = (Int32.toInt r4).toNat := rfl
    omega
  have h32 : dOk (zX10_fewest_32 q6 r4) (fun (o : Int32 × dS) => TS o.2 ∧ dFr [12, 16, 17, 18, 19, 20, 21, 22, 23] [22, 23, 24, 25, 37, 38] q o.2) := by
    unfold zX10_fewest_32 zX10_fewest_53
    refine dOk_G (dg_ok (by omega) (by omega)) (dOk_L (fun v2 _ => ?_))
    exact dOk_eq rfl rfl (fun _ _ => dOk_some ⟨hT6, hFq6⟩) (fun _ _ => dOk_G (dg_ok (by omega) (by omega)) (dOk_L (fun v4 _ => dOk_some ⟨hT6, hFq6⟩)))
  refine dOk_G (dg_ok (by omega) (by omega)) (dOk_L (fun v8 e8 => ?_))
  rw [n4] at e8
  refine dOk_eq rfl rfl (fun _ _ => h32) (fun c8 _ => ?_)
  refine dOk_eq rfl rfl (fun _ _ => h32) (fun c9 _ => ?_)
  refine dOk_G (dg_ok (by omega) (by omega)) (dOk_L (fun v10 e10 => ?_))
  rw [n4] at e10
  refine dOk_lt rfl rfl (fun c10 => ?_) (fun _ => dOk_some ⟨hT6, hFq6⟩)
  have hd0 : ¬ q6.1 21 u0 = 1000000 := by rw [← e8]; exact c8
  have f10 : 0 ≤ Int32.toInt v10 ∧ Int32.toInt v10 ≤ 1000000 := by rw [e10]; exact hT6.1 21 u0
  have t00 : Int32.toInt 0 = 0 := by decide
  unfold zX10_fewest_71
  refine dFix_ok (fun (a : dS × Int32 × Int32 × Int32 × Int32) => a.1 = q6 ∧ a.2.1 = p1 ∧ ∃ u m : Nat, a.2.2.1 = nI u ∧ u < 64 * facN N0 ∧ a.2.2.2.2 = nI m ∧ (m : Int) ≤ Int32.toInt p1 + 1 ∧ (q6.1 21 u).toInt + (m : Int) = Int32.toInt v10 ∧ ¬ q6.1 21 u = 1000000) (fun (a : dS × Int32 × Int32 × Int32 × Int32) => (Int32.toInt p1 + 1 - Int32.toInt a.2.2.2.2).toNat) ?_ _ ⟨rfl, rfl, u0, 0, eu0, by omega, rfl, by omega, by rw [e10]; omega, hd0⟩ _ (dF_gt (by show (Int32.toInt p1 + 1 - Int32.toInt 0).toNat < 1000000000000; omega))
  intro a ha k71 hk71
  obtain ⟨qa, x1, x2, x3, x4⟩ := a
  obtain ⟨a0, a1, u, m, a2, hu, a4, hm, hdm, hd⟩ := ha
  replace a0 : qa = q6 := a0
  replace a1 : x1 = p1 := a1
  replace a2 : x2 = nI u := a2
  replace a4 : x4 = nI m := a4
  subst a0 a1 a2 a4
  have tm : Int32.toInt (nI m) = (m : Int) := nI_toInt (by omega)
  have tu : Int32.toInt (nI u) = (u : Int) := nI_toInt (by omega)
  show dOk (zX10_fewest_71b (fun q x1 x2 x3 x4 => k71 (q, x1, x2, x3, x4)) qa x1 (nI u) x3 (nI m)) _
  unfold zX10_fewest_71b
  refine dOk_lt rfl tm (fun _ => dOk_some ⟨hT6, hFq6⟩) (fun c => ?_)
  have fu : 0 ≤ Int32.toInt (qa.1 21 u) ∧ Int32.toInt (qa.1 21 u) ≤ 1000000 := hT6.1 21 u
  obtain ⟨hth, hor⟩ := hG6 u hu hd
  rcases hor with z | ⟨t, kw, k1, k2, tth, hb, hpk, htd, hdt⟩
  · rw [z] at hdm; omega
  have hinv := (bh_inv hN6 tth k1 k2).2
  rw [hb] at hinv
  unfold zX10_fewest_79
  refine dFix_ok (fun (b : dS × Int32 × Int32 × Int32 × Int32) => b.1 = qa ∧ b.2.1 = x1 ∧ b.2.2.1 = nI u ∧ b.2.2.2.2 = nI m ∧ ∃ k : Nat, b.2.2.2.1 = nI k ∧ 1 ≤ k ∧ k ≤ kw) (fun (b : dS × Int32 × Int32 × Int32 × Int32) => (7 - Int32.toInt b.2.2.2.1).toNat) ?_ _ ⟨rfl, rfl, rfl, rfl, 1, rfl, by omega, by omega⟩ _ (dF_gt (by show (7 - Int32.toInt 1).toNat < 1000000000000; decide))
  intro b hb' k79 hk79
  obtain ⟨qb, y1, y2, y3, y4⟩ := b
  obtain ⟨b0, b1, b2, b4, k, b3, hk1, hkw⟩ := hb'
  replace b0 : qb = qa := b0
  replace b1 : y1 = x1 := b1
  replace b2 : y2 = nI u := b2
  replace b4 : y4 = nI m := b4
  replace b3 : y3 = nI k := b3
  subst b0 b1 b2 b4 b3
  have tk : Int32.toInt (nI k) = (k : Int) := nI_toInt (by omega)
  have hkN : k ≤ N0 := by omega
  have hbi := bh_inv hN6 hth hk1 hkN
  have hbl := ths_lt hN6 hbi.1
  show dOk (zX10_fewest_79b (fun q x1 x2 x3 x4 => k71 (q, x1, x2, x3, x4)) (fun q x1 x2 x3 x4 => k79 (q, x1, x2, x3, x4)) qb y1 (nI u) (nI k) (nI m)) _
  have h111 : k < kw → dOk (zX10_fewest_111 (fun q x1 x2 x3 x4 => k71 (q, x1, x2, x3, x4)) (fun q x1 x2 x3 x4 => k79 (q, x1, x2, x3, x4)) qb y1 (nI u) (nI k) (nI m)) (fun (o : Int32 × dS) => TS o.2 ∧ dFr [12, 16, 17, 18, 19, 20, 21, 22, 23] [22, 23, 24, 25, 37, 38] q o.2) := by
    intro hlt
    unfold zX10_fewest_111
    have t1 : Int32.toInt (nI k + 1) = (k : Int) + 1 := ti_add tk (by decide) (by omega) (by omega)
    refine hk79 (qb, y1, nI u, nI k + 1, nI m) ⟨rfl, rfl, rfl, rfl, k + 1, nI_1 k, by omega, by omega⟩ ?_
    show (7 - Int32.toInt (nI k + 1)).toNat < (7 - Int32.toInt (nI k)).toNat
    omega
  unfold zX10_fewest_79b
  refine dOk_B (ok_priceOf2 qb N0 u k hT6 hNb tt6 hth hk1 hkN) (fun r1 q9 h9 => ?_)
  have e9 : q9 = qb := h9.1
  have er1 : r1 = prV qb N0 u k := h9.2
  subst e9
  refine dOk_eq rfl rfl (fun c1 _ => h111 ?_) (fun _ _ => ?_)
  · rcases Nat.lt_or_ge k kw with z | z
    · exact z
    · have : k = kw := by omega
      subst this
      exact absurd (er1.symm.trans c1) hpk
  refine dOk_B (ok_behind2 q9 N0 u k hN6 tt6 hth hk1 hkN) (fun r5 q10 h10 => ?_)
  have e10' : q10 = q9 := h10.1
  have er5 : r5 = nI (bhN N0 u k) := h10.2
  subst e10' er5
  have tb : Int32.toInt (nI (bhN N0 u k)) = ((bhN N0 u k : Nat) : Int) := nI_toInt (by omega)
  refine dOk_G (dg_ok (by omega) (by omega)) (dOk_L (fun w8 f8 => ?_))
  rw [nI_clamp (by omega)] at f8
  refine dOk_G (dg_ok (by omega) (by omega)) (dOk_L (fun w10 g10 => ?_))
  rw [nI_clamp (by omega)] at g10
  have tw : Int32.toInt (w10 - 1) = Int32.toInt (q10.1 21 u) - 1 := by rw [g10]; exact ti_sub rfl (by decide) (by omega) (by omega)
  refine dOk_eq rfl rfl (fun c2 _ => ?_) (fun c2 _ => h111 ?_)
  · refine dOk_B (ok_behind2 q10 N0 u k hN6 tt6 hth hk1 hkN) (fun r11 q13 h13 => ?_)
    have e13 : q13 = q10 := h13.1
    have er11 : r11 = nI (bhN N0 u k) := h13.2
    subst e13 er11
    have hw8 : Int32.toInt (q13.1 21 (bhN N0 u k)) = Int32.toInt (q13.1 21 u) - 1 := by rw [← f8, c2]; exact tw
    have t1 : Int32.toInt (nI m + 1) = (m : Int) + 1 := ti_add tm (by decide) (by omega) (by omega)
    refine hk71 (q13, y1, nI (bhN N0 u k), nI k, nI m + 1) ⟨rfl, rfl, bhN N0 u k, m + 1, rfl, hbl.1, nI_1 m, by omega, ?_, ?_⟩ ?_
    · show (q13.1 21 (bhN N0 u k)).toInt + ((m + 1 : Nat) : Int) = Int32.toInt v10
      omega
    · intro z
      rw [z] at hw8
      have : Int32.toInt 1000000 = 1000000 := by decide
      omega
    · show (Int32.toInt y1 + 1 - Int32.toInt (nI m + 1)).toNat < (Int32.toInt y1 + 1 - Int32.toInt (nI m)).toNat
      omega
  · rcases Nat.lt_or_ge k kw with z | z
    · exact z
    · have : k = kw := by omega
      subst this
      refine absurd (Int32.toInt_inj.mp ?_) c2
      rw [tw, f8, hinv]
      omega
theorem ok_compare (q : dS) (p1 : Int32) (hT : TS q) : dOk (zX10_compare q p1) (fun (o : Int32 × dS) => TS o.2 ∧ dFr [12, 16, 17, 18, 19, 20, 21, 22, 23] [22, 23, 24, 25, 37, 38] q o.2) := by
  unfold zX10_compare
  refine dOk_B (ok_isLaw q p1 hT) (fun r1 q3 h3 => ?_)
  obtain ⟨e3, hr⟩ := h3
  replace e3 : q3 = q := e3
  replace hr : (Int32.toInt r1 = 1 ∧ -1 ≤ Int32.toInt p1 ∧ Int32.toInt p1 < Int32.toInt (q.1 2 31)) ∨ (Int32.toInt r1 = 0 ∧ (Int32.toInt p1 < -1 ∨ Int32.toInt (q.1 2 31) ≤ Int32.toInt p1)) := hr
  subst e3
  have t0 : Int32.toInt 0 = 0 := by decide
  refine dOk_eq rfl t0 (fun _ _ => dOk_some ⟨hT, dFr.rf⟩) (fun _ c => ?_)
  have hp : -1 ≤ Int32.toInt p1 ∧ Int32.toInt p1 < Int32.toInt (q3.1 2 31) := by
    rcases hr with z | z
    · exact z.2
    · exact absurd z.1 c
  have ho1 : -1 ≤ Int32.toInt (q3.1 2 32) := (te_k hT 32).1
  have ho2 : Int32.toInt (q3.1 2 32) < Int32.toInt (q3.1 2 31) := hT.2.1.1
  refine dOk_L (fun q4 e4 => ?_)
  have hT4 : TS q4 := by rw [e4]; exact ts_force hT hp.1 hp.2
  refine dOk_B (ok_fewest q4 (-1) hT4) (fun r5 q7 h7 => ?_)
  obtain ⟨hT7, hF7⟩ := h7
  replace hT7 : TS q7 := hT7
  replace hF7 : dFr [12, 16, 17, 18, 19, 20, 21, 22, 23] [22, 23, 24, 25, 37, 38] q4 q7 := hF7
  have e72 : q7.1 2 = upd (q3.1 2) 32 p1 := by rw [hF7.1 2 (by decide) (by decide), e4, dui_s]
  refine dOk_L (fun q8 e8 => ?_)
  refine dOk_some ⟨?_, ?_, ?_⟩
  · show TS q8
    rw [e8]
    refine ts_force hT7 ho1 ?_
    rw [e72, show upd (q3.1 2) 32 p1 31 = q3.1 2 31 from if_neg (by decide)]
    exact ho2
  · show ∀ j : Nat, j ∉ [12, 16, 17, 18, 19, 20, 21, 22, 23] → j ≠ 0 → q8.1 j = q3.1 j
    intro j hj h0
    by_cases c2 : j = 2
    · subst c2
      rw [e8, dui_s, e72]
      funext i
      by_cases ci : i = 32
      · subst ci; exact if_pos rfl
      · show (if i = 32 then q3.1 2 32 else upd (q3.1 2) 32 p1 i) = q3.1 2 i
        rw [if_neg ci]; exact if_neg ci
    · rw [e8, dui_o c2, hF7.1 j hj h0, e4, dui_o c2]
  · show ∀ k : Nat, k ∉ [22, 23, 24, 25, 37, 38] → q8.1 0 k = q3.1 0 k
    intro k hk
    rw [e8, dui_o (by decide), hF7.2 k hk, e4, dui_o (by decide)]
