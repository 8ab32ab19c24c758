set_option maxRecDepth 100000 in
set_option maxHeartbeats 4000000 in
theorem ok_laysDist2 (q : dS) (N0 : Nat) (hT : TS q) (hN : (q.1 2 29).toInt = (N0 : Int)) : dOk (zX10_laysDist q) (dP2 q N0) := by
  unfold zX10_laysDist
  refine dOk_V (ok_laysPrices2 q N0 hT hN) (fun q3 h3 => ?_)
  obtain ⟨hT3, hF3, ht3⟩ := h3
  have fs : 0 ≤ Int32.toInt (q.1 2 29) ∧ Int32.toInt (q.1 2 29) ≤ 6 := hT.1 2 29
  have hN6 : N0 ≤ 6 := by omega
  have hfac := facN_le N0 hN6
  have z37 : Int32.toInt (q3.1 0 37) = (facN N0 : Int) := by rw [ht3.1]; exact nI_toInt (by omega)
  have hN3 : (q3.1 2 29).toInt = (N0 : Int) := by rw [hF3.1 2 (by decide) (by decide)]; exact hN
  have tq : ∀ o : dS, dFr [21, 22, 23] [] q3 o → tabs o N0 ∧ prV o N0 = prV q3 N0 := by
    intro o ho
    refine ⟨tabs_keep ht3 (ho.2 37 (by decide)) (ho.2 38 (by decide)) (ho.1 16 (by decide) (by decide)) (ho.1 17 (by decide) (by decide)) (ho.1 18 (by decide) (by decide)), ?_⟩
    funext u k
    unfold prV
    rw [ho.1 20 (by decide) (by decide)]
  have hF3' : dFr [12, 16, 17, 18, 19, 20, 21, 22, 23] [22, 23, 24, 25, 37, 38] q q3 := hF3.w (by decide) (by decide)
  have f37 : 0 ≤ Int32.toInt (q3.1 0 37) ∧ Int32.toInt (q3.1 0 37) ≤ 720 := hT3.1 0 37
  -- the second half
  have h97 : ∀ (q6 : dS) (n0 : Nat), TS q6 → dFr [21, 22, 23] [] q3 q6 → Cq (prV q3 N0) N0 n0 (q6.1 21) (q6.1 23) → dOk (zX10_laysDist_97 dF q6 (nI n0) 0) (dP2 q N0) := by
    intro q6 n0 hT6 hF6 hB6
    unfold zX10_laysDist_97
    refine dFix_ok (fun (a : dS × Int32 × Int32) => TS a.1 ∧ dFr [21, 22, 23] [] q3 a.1 ∧ ∃ n i : Nat, a.2.1 = nI n ∧ a.2.2 = nI i ∧ i ≤ n ∧ Cq (prV q3 N0) N0 n (a.1.1 21) (a.1.1 23)) (fun (a : dS × Int32 × Int32) => (46081 - Int32.toInt a.2.2).toNat) ?_ _ ⟨hT6, hF6, n0, 0, rfl, rfl, by omega, hB6⟩ _ (dF_gt (by show (46081 - Int32.toInt 0).toNat < 1000000000000; rw [show Int32.toInt 0 = (0 : Int) by decide]; omega))
    intro a ha k57 hk57
    obtain ⟨qc, x1, x2⟩ := a
    obtain ⟨hTc, hFc, n, i, en, ei, hin, hBc⟩ := ha
    replace hTc : TS qc := hTc
    replace hFc : dFr [21, 22, 23] [] q3 qc := hFc
    replace en : x1 = nI n := en
    replace ei : x2 = nI i := ei
    replace hBc : Cq (prV q3 N0) N0 n (qc.1 21) (qc.1 23) := hBc
    subst en ei
    have hn := hBc.1.1
    have tn : Int32.toInt (nI n) = (n : Int) := nI_toInt (by omega)
    have ti : Int32.toInt (nI i) = (i : Int) := nI_toInt (by omega)
    have ni : Int32.toNatClampNeg (nI i) = i := nI_clamp (by omega)
    show dOk (zX10_laysDist_97b (fun q x1 x2 => k57 (q, x1, x2)) qc (nI n) (nI i)) _
    unfold zX10_laysDist_97b
    refine dOk_le tn ti (fun c => dOk_some ⟨hTc, hF3'.t hFc (by decide) (by decide), (tq qc hFc).1, ?_⟩) (fun c => ?_)
    · rw [(tq qc hFc).2]; exact hBc.2.1
    refine dOk_G (dg_ok (by omega) (by omega)) (dOk_L (fun v2 ev2 => ?_))
    rw [ni] at ev2
    have f2 := hBc.1.2 i (by omega)
    rw [← ev2] at f2
    unfold zX10_laysDist_112
    refine dFix_ok (fun (a : dS × Int32 × Int32 × Int32 × Int32) => TS a.1 ∧ dFr [21, 22, 23] [] q3 a.1 ∧ a.2.2.1 = nI i ∧ a.2.2.2.1 = v2 ∧ (∃ n : Nat, a.2.1 = nI n ∧ i < n ∧ Cq (prV q3 N0) N0 n (a.1.1 21) (a.1.1 23) ∧ a.1.1 23 i = v2) ∧ 1 ≤ a.2.2.2.2.toInt ∧ a.2.2.2.2.toInt ≤ 7) (fun (a : dS × Int32 × Int32 × Int32 × Int32) => (7 - Int32.toInt a.2.2.2.2).toNat) ?_ _ ⟨hTc, hFc, rfl, rfl, ⟨n, rfl, by omega, hBc, ev2.symm⟩, by show (1 : Int) ≤ Int32.toInt 1; decide, by show Int32.toInt 1 ≤ (7 : Int); decide⟩ _ (dF_gt (by show (7 - Int32.toInt 1).toNat < 1000000000000; decide))
    intro a ha k64 hk64
    obtain ⟨qd, y1, y2, y5, y3⟩ := a
    obtain ⟨hTd, hFd, e2, e5, ⟨n', e1, hi', hBd, hui⟩, y30, y31⟩ := ha
    replace hTd : TS qd := hTd
    replace hFd : dFr [21, 22, 23] [] q3 qd := hFd
    replace e2 : y2 = nI i := e2
    replace e5 : y5 = v2 := e5
    replace e1 : y1 = nI n' := e1
    replace hBd : Cq (prV q3 N0) N0 n' (qd.1 21) (qd.1 23) := hBd
    replace hui : qd.1 23 i = v2 := hui
    replace y30 : 1 ≤ y3.toInt := y30
    replace y31 : y3.toInt ≤ 7 := y31
    subst e1 e2 e5
    have hn' := hBd.1.1
    have tn' : Int32.toInt (nI n') = (n' : Int) := nI_toInt (by omega)
    have nn : Int32.toNatClampNeg (nI n') = n' := nI_clamp (by omega)
    have n5 : Int32.toNatClampNeg y5 = (Int32.toInt y5).toNat := rfl
    show dOk (zX10_laysDist_112b _ (fun q x1 x2 x3 x4 => k64 (q, x1, x2, x3, x4)) qd (nI n') (nI i) y5 y3) _
    have y3p : y3.toInt ≤ 6 → Int32.toInt (y3 + 1) = y3.toInt + 1 := fun _ => ti_add rfl (by decide) (by omega) (by omega)
    have h232 : ∀ (q' : dS) (m : Nat), y3.toInt ≤ 6 → TS q' → dFr [21, 22, 23] [] q3 q' → i < m → Cq (prV q3 N0) N0 m (q'.1 21) (q'.1 23) → q'.1 23 i = y5 → dOk (zX10_laysDist_232 (fun q x1 x2 => k57 (q, x1, x2)) (fun q x1 x2 x3 x4 => k64 (q, x1, x2, x3, x4)) q' (nI m) (nI i) y5 y3) (dP2 q N0) := by
      intro q' m hy6 hT' hF' hm' hB' hu'
      unfold zX10_laysDist_232
      have y3p := y3p hy6
      refine hk64 (q', nI m, nI i, y5, y3 + 1) ⟨hT', hF', rfl, rfl, ⟨m, rfl, hm', hB', hu'⟩, ?_, ?_⟩ ?_
      · show 1 ≤ Int32.toInt (y3 + 1)
        omega
      · show Int32.toInt (y3 + 1) ≤ 7
        omega
      · show (7 - Int32.toInt (y3 + 1)).toNat < (7 - Int32.toInt y3).toNat
        omega
    have h183 : ∀ (q' : dS) (m : Nat) (r4 : Int32), y3.toInt ≤ 6 → 0 ≤ r4.toInt → r4.toInt ≤ 46079 → TS q' → dFr [21, 22, 23] [] q3 q' → i < m → Cq (prV q3 N0) N0 m (q'.1 21) (q'.1 23) → q'.1 23 i = y5 → dOk (zX10_laysDist_183 (fun q x1 x2 => k57 (q, x1, x2)) (fun q x1 x2 x3 x4 => k64 (q, x1, x2, x3, x4)) q' (nI m) (nI i) y5 y3 r4) (dP2 q N0) := by
      intro q' m r4 hy6 h40 h41 hT' hF' hm' hB' hu'
      have h227 : ∀ a b : Int32, dOk (zX10_laysDist_227 (fun q x1 x2 => k57 (q, x1, x2)) (fun q x1 x2 x3 x4 => k64 (q, x1, x2, x3, x4)) q' (nI m) (nI i) y5 y3 a b 1000000000 r4) (dP2 q N0) := by
        intro a b
        unfold zX10_laysDist_227
        refine dOk_V (ok_lesser 1000000000 (b + a)) (fun r1 _ => dOk_G (dg_ok (by omega) (by omega)) (dOk_L (fun q4 e4 => ?_)))
        refine h232 q4 m hy6 (by rw [e4]; exact ts_any hT' rfl) (by rw [e4]; exact hF'.i (by decide) (by decide)) hm' ?_ ?_
        · rw [e4, dui_o (by decide), dui_o (by decide)]; exact hB'
        · rw [e4, dui_o (by decide)]; exact hu'
      unfold zX10_laysDist_183
      refine dOk_G (dg_ok (by omega) (by omega)) (dOk_L (fun v2 _ => dOk_G (dg_ok (by omega) (by omega)) (dOk_L (fun v4 _ => dOk_G (dg_ok (by omega) (by omega)) (dOk_L (fun v6 _ => ?_))))))
      exact dOk_eq rfl rfl (fun _ _ => dOk_G (dg_ok (by omega) (by omega)) (dOk_L (fun v8 _ => h227 _ _))) (fun _ _ => h227 _ _)
    unfold zX10_laysDist_112b
    refine dOk_B (ok_size qd hTd) (fun r1 qe hr => ?_)
    have ee : qe = qd := hr.1
    have hr6 : 0 ≤ Int32.toInt r1 ∧ Int32.toInt r1 ≤ 6 := hr.2.2
    subst ee
    refine dOk_lt rfl rfl (fun c3 => ?_) (fun c3 => ?_)
    · have t1 : Int32.toInt (nI i + 1) = (i : Int) + 1 := ti_add ti (by decide) (by omega) (by omega)
      refine hk57 (qe, nI n', nI i + 1) ⟨hTd, hFd, n', i + 1, rfl, nI_1 i, by omega, hBd⟩ ?_
      show (46081 - Int32.toInt (nI i + 1)).toNat < (46081 - Int32.toInt (nI i)).toNat
      omega
    have hy6 : y3.toInt ≤ 6 := by omega
    have hrs : Int32.toInt r1 = Int32.toInt (qe.1 2 29) := hr.2.1
    have hNe : (qe.1 2 29).toInt = (N0 : Int) := by rw [hFd.1 2 (by decide) (by decide)]; exact hN3
    have b5 := hBd.1.2 i hi'
    rw [hui] at b5
    have t5 : ths N0 (Int32.toInt y5).toNat := by have := hBd.2.2 i hi'; rw [hui] at this; exact this
    obtain ⟨t0, et0, ht0, -⟩ := ti_nI b5.1
    obtain ⟨kk, ekk, hkk, -⟩ := ti_nI (x := y3) (by omega)
    have t5' : ths N0 t0 := by rw [show (Int32.toInt y5).toNat = t0 by omega] at t5; exact t5
    have hk1 : 1 ≤ kk := by omega
    have hk2 : kk ≤ N0 := by omega
    obtain ⟨tte, tpe⟩ := tq qe hFd
    have hbi := bh_inv hN6 t5' hk1 hk2
    have hbl := ths_lt hN6 hbi.1
    refine dOk_B (R := fun o => o.2 = qe ∧ o.1 = nI (bhN N0 t0 kk)) (by rw [et0, ekk]; exact ok_behind2 qe N0 t0 kk hN6 tte t5' hk1 hk2) (fun r6 qf hf => ?_)
    have ef : qf = qe := hf.1
    have er6 : r6 = nI (bhN N0 t0 kk) := hf.2
    have tr6 : Int32.toInt r6 = ((bhN N0 t0 kk : Nat) : Int) := by rw [er6]; exact nI_toInt (by omega)
    have hr66 : 0 ≤ Int32.toInt r6 ∧ Int32.toInt r6 ≤ 46079 := by omega
    subst ef
    refine dOk_B (R := fun o => o.2 = qf ∧ o.1 = prV q3 N0 (bhN N0 t0 kk) kk) (by rw [er6, ekk, ← tpe]; exact ok_priceOf2 qf N0 (bhN N0 t0 kk) kk hTd hNe tte hbi.1 hk1 hk2) (fun r11 qg hg => ?_)
    have eg : qg = qf := hg.1
    have er11 : r11 = prV q3 N0 (bhN N0 t0 kk) kk := hg.2
    subst eg
    refine dOk_eq rfl rfl (fun _ _ => h232 qg n' hy6 hTd hFd hi' hBd hui) (fun c11 _ => ?_)
    refine dOk_G (dg_ok (by omega) (by omega)) (dOk_L (fun v15 e15 => ?_))
    have n6 : Int32.toNatClampNeg r6 = (Int32.toInt r6).toNat := rfl
    rw [n6] at e15
    refine dOk_eq rfl rfl (fun c15 _ => ?_) (fun _ _ => h183 qg n' r6 hy6 hr66.1 hr66.2 hTd hFd hi' hBd hui)
    have hfar6 : qg.1 21 (Int32.toInt r6).toNat = 1000000 := by rw [← e15]; exact c15
    refine dOk_G (dg_ok (by omega) (by omega)) (dOk_L (fun v19 e19 => ?_))
    rw [n5] at e19
    have f5 := hBd.1.2 i hi'
    rw [hui] at f5
    have f19 : 0 ≤ Int32.toInt v19 ∧ Int32.toInt v19 ≤ 1000000 := by rw [e19]; exact hTd.1 21 _
    have f19' : Int32.toInt v19 ≤ (i : Int) := by rw [e19]; exact f5.2.2
    have t19 : Int32.toInt (v19 + 1) = v19.toInt + 1 := ti_add rfl (by decide) (by omega) (by omega)
    have hpush := B_push (v := v19 + 1) (x := r6) (w := (Int32.toInt r6).toNat) hBd.1 hi' (by omega) hfar6 (by rw [t19, hui, e19]) (by omega) (by omega)
    refine dOk_G (dg_ok (by omega) (by omega)) (dOk_L (fun q21 e21 => ?_))
    rw [n6] at e21
    have hT21 : TS q21 := by rw [e21]; exact ts_set hTd (by decide) (show 0 ≤ Int32.toInt (v19 + 1) by omega) (show Int32.toInt (v19 + 1) ≤ 1000000 by omega)
    refine dOk_G (dg_ok (by omega) (by have := hpush.1; omega)) (dOk_L (fun q23 e23 => ?_))
    rw [nn] at e23
    have hT23 : TS q23 := by rw [e23]; exact ts_set hT21 (by decide) (show 0 ≤ Int32.toInt r6 by omega) (show Int32.toInt r6 ≤ 46079 by omega)
    have hF23 : dFr [21, 22, 23] [] q3 q23 := by
      rw [e23]; refine dFr.i ?_ (by decide) (by decide)
      rw [e21]; exact hFd.i (by decide) (by decide)
    have s1 : nI n' + 1 = nI (n' + 1) := nI_1 n'
    rw [s1]
    refine h183 q23 (n' + 1) r6 hy6 hr66.1 hr66.2 hT23 hF23 (by omega) ?_ ?_
    · rw [e23, dui_s, dui_o (by decide), e21, dui_s, dui_o (by decide)]
      have ew : (Int32.toInt r6).toNat = bhN N0 t0 kk := by omega
      have ed : (qg.1 21 t0).toInt ≤ (i : Int) := by rw [show t0 = (Int32.toInt y5).toNat by omega]; exact b5.2.2
      refine ⟨hpush.2, ?_, ?_⟩
      · rw [ew] at hfar6 ⊢
        refine G_push hN6 hBd.2.1 t5' (fun z => ?_) hk1 hk2 (by rw [← er11]; exact c11) hfar6 ?_
        · rw [z] at ed
          have : Int32.toInt 1000000 = 1000000 := by decide
          omega
        · rw [t19, e19, show (Int32.toInt y5).toNat = t0 by omega]
      · intro j hj
        by_cases cj : j = n'
        · rw [show upd (qg.1 23) n' r6 j = r6 from if_pos cj, ew]; exact hbi.1
        · rw [show upd (qg.1 23) n' r6 j = qg.1 23 j from if_neg cj]; exact hBd.2.2 j (by omega)
    · rw [e23, dui_n (by omega), e21, dui_o (by decide)]; exact hui
  unfold zX10_laysDist_8
  refine dFix_ok (fun (a : dS × Int32 × Int32) => TS a.1 ∧ dFr [21, 22, 23] [] q3 a.1 ∧ ∃ n t : Nat, a.2.1 = nI n ∧ a.2.2 = nI t ∧ (t : Int) ≤ 64 * Int32.toInt (q3.1 0 37) ∧ n + sm (fz (a.1.1 21)) t ≤ t ∧ (∀ j : Nat, j < n → 0 ≤ (a.1.1 23 j).toInt ∧ (a.1.1 23 j).toInt < (t : Int) ∧ a.1.1 21 (a.1.1 23 j).toInt.toNat = 0 ∧ ths N0 (a.1.1 23 j).toInt.toNat) ∧ ∀ u : Nat, u < t → ¬ a.1.1 21 u = 1000000 → ths N0 u ∧ a.1.1 21 u = 0) (fun (a : dS × Int32 × Int32) => (46080 - Int32.toInt a.2.2).toNat) ?_ _ ⟨hT3, dFr.rf, 0, 0, rfl, rfl, by omega, by unfold sm; omega, (fun j hj => by omega), fun u hu => absurd hu (Nat.not_lt_zero u)⟩ _ (dF_gt (by show (46080 - Int32.toInt 0).toNat < 1000000000000; rw [show Int32.toInt 0 = (0 : Int) by decide]; omega))
  intro a ha k hk
  obtain ⟨qa, x1, x2⟩ := a
  obtain ⟨hTa, hFa, n, t, en, et, ht, hcnt, hq, hz⟩ := ha
  replace hTa : TS qa := hTa
  replace hFa : dFr [21, 22, 23] [] q3 qa := hFa
  replace en : x1 = nI n := en
  replace et : x2 = nI t := et
  replace hcnt : n + sm (fz (qa.1 21)) t ≤ t := hcnt
  replace hq : ∀ j : Nat, j < n → 0 ≤ (qa.1 23 j).toInt ∧ (qa.1 23 j).toInt < (t : Int) ∧ qa.1 21 (qa.1 23 j).toInt.toNat = 0 ∧ ths N0 (qa.1 23 j).toInt.toNat := hq
  replace hz : ∀ u : Nat, u < t → ¬ qa.1 21 u = 1000000 → ths N0 u ∧ qa.1 21 u = 0 := hz
  subst en et
  have tt : Int32.toInt (nI t) = (t : Int) := nI_toInt (by omega)
  have nt : Int32.toNatClampNeg (nI t) = t := nI_clamp (by omega)
  have tn : Int32.toInt (nI n) = (n : Int) := nI_toInt (by omega)
  have nn : Int32.toNatClampNeg (nI n) = n := nI_clamp (by omega)
  have w37 : qa.1 0 37 = q3.1 0 37 := hFa.2 37 (by decide)
  have m37 : Int32.toInt (64 * qa.1 0 37) = 64 * Int32.toInt (q3.1 0 37) := by rw [w37]; exact ti_mul (by decide) rfl (by omega) (by omega)
  show dOk (zX10_laysDist_8b (fun q x1 x2 => k (q, x1, x2)) qa (nI n) (nI t)) _
  unfold zX10_laysDist_8b
  refine dOk_le m37 tt (fun c => ?_) (fun c => ?_)
  · refine h97 qa n hTa hFa ⟨⟨?_, fun j hj => ?_⟩, fun u hu hd => ?_, fun j hj => (hq j hj).2.2.2⟩
    · have hN := cN_eq
      have := sm_split (fz_le (qa.1 21)) t cN (by rw [hN]; omega)
      unfold cF
      omega
    · obtain ⟨z1, z2, z3, z4⟩ := hq j hj
      refine ⟨z1, by omega, ?_⟩
      rw [z3]
      have : (0 : Int32).toInt = 0 := by decide
      omega
    · obtain ⟨g1, g2⟩ := hz u (by omega) hd
      exact ⟨g1, Or.inl g2⟩
  have t1 : Int32.toInt (nI t + 1) = (t : Int) + 1 := ti_add tt (by decide) (by omega) (by omega)
  have h40 : ∀ y0 : Int32, (y0 = 0 ∨ (y0 = 1 ∧ ths N0 t)) → dOk (zX10_laysDist_40 (fun q x1 x2 => k (q, x1, x2)) qa (nI n) (nI t) y0) (dP2 q N0) := by
    have hst : ∀ (v w : Int32), 0 ≤ v.toInt → v.toInt ≤ 1000000 → ∀ q2 q4 : dS, q2 = dui qa 21 t v → q4 = dui q2 22 t w → TS q4 ∧ dFr [21, 22, 23] [] q3 q4 ∧ q4.1 21 = upd (qa.1 21) t v ∧ q4.1 23 = qa.1 23 ∧ sm (fz (q4.1 21)) (t + 1) = sm (fz (qa.1 21)) t + (if v = 1000000 then 1 else 0) := by
      intro v w hv0 hv1 q2 q4 e2 e4
      have g21 : q4.1 21 = upd (qa.1 21) t v := by rw [e4, dui_o (by decide), e2, dui_s]
      refine ⟨?_, ?_, g21, ?_, ?_⟩
      · rw [e4]; refine ts_any ?_ rfl
        rw [e2]; exact ts_set hTa (by decide) hv0 hv1
      · rw [e4]; refine dFr.i ?_ (by decide) (by decide)
        rw [e2]; exact hFa.i (by decide) (by decide)
      · rw [e4, dui_o (by decide), e2, dui_o (by decide)]
      · rw [g21]
        show sm (fz (upd (qa.1 21) t v)) t + fz (upd (qa.1 21) t v) t = _
        rw [fz_e, sm_same t (fun k hk => fz_o (by omega))]
    intro y0 hy
    unfold zX10_laysDist_40 zX10_laysDist_56 zX10_laysDist_71 zX10_laysDist_89
    rcases hy with e | ⟨e, hth⟩
    · subst e
      rw [if_pos rfl]
      refine dOk_G (dg_ok (by omega) (by omega)) (dOk_L (fun q2 e2 => ?_))
      rw [nt] at e2
      rw [if_pos rfl]
      refine dOk_G (dg_ok (by omega) (by omega)) (dOk_L (fun q4 e4 => ?_))
      rw [nt] at e4
      rw [if_pos rfl]
      obtain ⟨s1, s2, s3, s4, s5⟩ := hst 1000000 0 (by decide) (by decide) q2 q4 e2 e4
      rw [if_pos rfl] at s5
      refine hk (q4, nI n, nI t + 1) ⟨s1, s2, n, t + 1, rfl, nI_1 t, by omega, ?_, ?_, ?_⟩ ?_
      · show n + sm (fz (q4.1 21)) (t + 1) ≤ t + 1
        omega
      · show ∀ j : Nat, j < n → 0 ≤ (q4.1 23 j).toInt ∧ (q4.1 23 j).toInt < ((t + 1 : Nat) : Int) ∧ q4.1 21 (q4.1 23 j).toInt.toNat = 0 ∧ ths N0 (q4.1 23 j).toInt.toNat
        intro j hj
        obtain ⟨z1, z2, z3, z4⟩ := hq j hj
        rw [s4, s3]
        refine ⟨z1, by omega, ?_, z4⟩
        rw [show upd (qa.1 21) t 1000000 (qa.1 23 j).toInt.toNat = qa.1 21 (qa.1 23 j).toInt.toNat from if_neg (by omega)]
        exact z3
      · show ∀ u : Nat, u < t + 1 → ¬ q4.1 21 u = 1000000 → ths N0 u ∧ q4.1 21 u = 0
        intro u hu hd
        rw [s3] at hd ⊢
        by_cases cu : u = t
        · exact absurd (show upd (qa.1 21) t 1000000 u = 1000000 from if_pos cu) hd
        · rw [show upd (qa.1 21) t 1000000 u = qa.1 21 u from if_neg cu] at hd ⊢
          exact hz u (by omega) hd
      · show (46080 - Int32.toInt (nI t + 1)).toNat < (46080 - Int32.toInt (nI t)).toNat
        omega
    · subst e
      rw [if_neg (by decide)]
      refine dOk_G (dg_ok (by omega) (by omega)) (dOk_L (fun q2 e2 => ?_))
      rw [nt] at e2
      rw [if_neg (by decide)]
      refine dOk_G (dg_ok (by omega) (by omega)) (dOk_L (fun q4 e4 => ?_))
      rw [nt] at e4
      rw [if_neg (by decide)]
      obtain ⟨s1, s2, s3, s4, s5⟩ := hst 0 1 (by decide) (by decide) q2 q4 e2 e4
      rw [if_neg (by decide)] at s5
      refine dOk_G (dg_ok (by omega) (by omega)) (dOk_L (fun q6 e6 => ?_))
      rw [nn] at e6
      refine hk (q6, nI n + 1, nI t + 1) ⟨?_, ?_, n + 1, t + 1, nI_1 n, nI_1 t, by omega, ?_, ?_, ?_⟩ ?_
      · show TS q6
        rw [e6]; exact ts_set s1 (by decide) (show 0 ≤ Int32.toInt (nI t) by omega) (show Int32.toInt (nI t) ≤ 46079 by omega)
      · show dFr [21, 22, 23] [] q3 q6
        rw [e6]; exact s2.i (by decide) (by decide)
      · show n + 1 + sm (fz (q6.1 21)) (t + 1) ≤ t + 1
        rw [e6, dui_o (by decide)]
        omega
      · show ∀ j : Nat, j < n + 1 → 0 ≤ (q6.1 23 j).toInt ∧ (q6.1 23 j).toInt < ((t + 1 : Nat) : Int) ∧ q6.1 21 (q6.1 23 j).toInt.toNat = 0 ∧ ths N0 (q6.1 23 j).toInt.toNat
        intro j hj
        have g6 : q6.1 21 = upd (qa.1 21) t 0 := by rw [e6, dui_o (by decide)]; exact s3
        rcases Nat.lt_or_ge j n with z | z
        · obtain ⟨z1, z2, z3, z4⟩ := hq j z
          have u6 : q6.1 23 j = qa.1 23 j := by rw [e6, dui_n (by omega), s4]
          rw [u6, g6]
          refine ⟨z1, by omega, ?_, z4⟩
          rw [show upd (qa.1 21) t 0 (qa.1 23 j).toInt.toNat = qa.1 21 (qa.1 23 j).toInt.toNat from if_neg (by omega)]
          exact z3
        · have : j = n := by omega
          subst this
          have u6 : q6.1 23 j = nI t := by rw [e6, dui_e]
          rw [u6, g6]
          refine ⟨by omega, by omega, ?_, ?_⟩
          · rw [tt]
            exact if_pos (by omega)
          · rw [tt, show ((t : Nat) : Int).toNat = t by omega]; exact hth
      · show ∀ u : Nat, u < t + 1 → ¬ q6.1 21 u = 1000000 → ths N0 u ∧ q6.1 21 u = 0
        intro u hu hd
        have g6 : q6.1 21 = upd (qa.1 21) t 0 := by rw [e6, dui_o (by decide)]; exact s3
        rw [g6] at hd ⊢
        by_cases cu : u = t
        · exact ⟨by rw [cu]; exact hth, if_pos cu⟩
        · rw [show upd (qa.1 21) t 0 u = qa.1 21 u from if_neg cu] at hd ⊢
          exact hz u (by omega) hd
      · show (46080 - Int32.toInt (nI t + 1)).toNat < (46080 - Int32.toInt (nI t)).toNat
        omega
  obtain ⟨tta, -⟩ := tq qa hFa
  refine dOk_B (ok_isThere2 qa N0 t hN6 (by omega) tta.1 tta.2.1) (fun r1 qb hb => ?_)
  have eb : qb = qa := hb.1
  have hb2 : r1 = 0 ∨ (r1 = 1 ∧ ths N0 t) := hb.2
  subst eb
  unfold zX10_laysDist_39
  refine dOk_eq rfl rfl (fun _ _ => h40 0 (Or.inl rfl)) (fun c1 _ => ?_)
  have hth : ths N0 t := by
    rcases hb2 with z | z
    · exact absurd z c1
    · exact z.2
  refine dOk_B (ok_isOrdered qb (nI t) hTa (by omega)) (fun r4 qc hc => ?_)
  have ec : qc = qb := hc.1
  subst ec
  exact dOk_eq rfl rfl (fun _ _ => h40 0 (Or.inl rfl)) (fun _ _ => h40 1 (Or.inr ⟨rfl, hth⟩))
