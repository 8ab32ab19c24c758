set_option maxRecDepth 100000 in
set_option maxHeartbeats 4000000 in
theorem ok_laysReach (q : dS) (hT : TS q) : dOk (zX10_laysReach q) (fun (o : Int32 × dS) => (TS o.2) ∧ (dFr [12, 16, 17, 18, 19, 20, 21, 23] [22, 23, 24, 25, 37, 38] q o.2) ∧ (Int32.toInt (o.2.1 0 37) = facI (Int32.toInt (q.1 2 29))) ∧ (Int32.toInt (o.2.1 0 38) = powI (Int32.toInt (q.1 2 29)))) := by
  unfold zX10_laysReach
  have fs : 0 ≤ Int32.toInt (q.1 2 29) ∧ Int32.toInt (q.1 2 29) ≤ 6 := hT.1 2 29
  refine dOk_V (ok_laysPrices q hT) (fun q3 h3 => ?_)
  obtain ⟨hT3, hF3, e37, e38⟩ := h3
  have hF3' : dFr [12, 16, 17, 18, 19, 20, 21, 23] [22, 23, 24, 25, 37, 38] q q3 := hF3.w (by decide) (by decide)
  have f37 : 0 ≤ Int32.toInt (q3.1 0 37) ∧ Int32.toInt (q3.1 0 37) ≤ 720 := hT3.1 0 37
  have w29 : q3.1 2 29 = q.1 2 29 := by rw [hF3.1 2 (by decide) (by decide)]
  unfold zX10_laysReach_6
  refine dFix_ok (fun (a : dS × Int32) => TS a.1 ∧ dFr [19, 21, 23] [] q3 a.1 ∧ ∃ t : Nat, a.2 = nI t ∧ (t : Int) ≤ 64 * Int32.toInt (q3.1 0 37) ∧ ∀ i : Nat, i < t → a.1.1 21 i = 1000000) (fun (a : dS × Int32) => (46080 - Int32.toInt a.2).toNat) ?_ _ ⟨hT3, dFr.rf, 0, rfl, by omega, fun i hi => by omega⟩ _ (dF_gt (by show (46080 - Int32.toInt 0).toNat < 1000000000000; rw [show Int32.toInt 0 = (0 : Int) by decide]; omega))
  intro a ha k hk
  obtain ⟨qa, x1⟩ := a
  obtain ⟨hTa, hFa, t, et, ht, hfar⟩ := ha
  replace hTa : TS qa := hTa
  replace hFa : dFr [19, 21, 23] [] q3 qa := hFa
  replace et : x1 = nI t := et
  replace hfar : ∀ i : Nat, i < t → qa.1 21 i = 1000000 := hfar
  subst et
  have tt : Int32.toInt (nI t) = (t : Int) := nI_toInt (by omega)
  have nt : Int32.toNatClampNeg (nI t) = t := nI_clamp (by omega)
  have w37 : qa.1 0 37 = q3.1 0 37 := hFa.2 37 (by decide)
  have m37 : Int32.toInt (64 * qa.1 0 37) = 64 * Int32.toInt (q3.1 0 37) := by rw [w37]; exact ti_mul (by decide) rfl (by omega) (by omega)
  show dOk (zX10_laysReach_6b (fun q x1 => k (q, x1)) qa (nI t)) _
  unfold zX10_laysReach_6b
  refine dOk_le m37 tt (fun c => ?_) (fun c => ?_)
  rotate_left
  · refine dOk_G (dg_ok (by omega) (by omega)) (dOk_L (fun q8 e8 => ?_))
    rw [nt] at e8
    have t1 : Int32.toInt (nI t + 1) = (t : Int) + 1 := ti_add tt (by decide) (by omega) (by omega)
    refine hk (q8, nI t + 1) ⟨?_, ?_, t + 1, nI_1 t, by omega, ?_⟩ ?_
    · show TS q8
      rw [e8]; exact ts_set hTa (by decide) (show (0 : Int) ≤ Int32.toInt 1000000 by decide) (show Int32.toInt 1000000 ≤ (1000000 : Int) by decide)
    · show dFr [19, 21, 23] [] q3 q8
      rw [e8]; exact hFa.i (by decide) (by decide)
    · show ∀ i : Nat, i < t + 1 → q8.1 21 i = 1000000
      intro i hi
      rcases Nat.lt_or_ge i t with z | z
      · rw [e8, dui_n (by omega)]; exact hfar i z
      · have : i = t := by omega
        rw [this, e8, dui_e]
    · show (46080 - Int32.toInt (nI t + 1)).toNat < (46080 - Int32.toInt (nI t)).toNat
      omega
  have wa29 : qa.1 2 29 = q.1 2 29 := by rw [hFa.1 2 (by decide) (by decide)]; exact w29
  refine dOk_B (ok_towerNow qa hTa) (fun r1 qb hb => ?_)
  obtain ⟨hTb, hFb, r0, rlt⟩ := hb
  replace hTb : TS qb := hTb
  replace r0 : 0 ≤ Int32.toInt r1 ∧ Int32.toInt r1 ≤ 46079 := r0
  replace rlt : Int32.toInt r1 < 64 * facI (Int32.toInt (qa.1 2 29)) := rlt
  rw [wa29, ← e37] at rlt
  have b21 : qb.1 21 = qa.1 21 := hFb.1 21 (by decide) (by decide)
  refine dOk_L (fun q4 e4 => ?_)
  have g4 : q4.1 23 0 = r1 := by rw [e4, dui_e]
  have nr : Int32.toNatClampNeg r1 = (Int32.toInt r1).toNat := rfl
  refine dOk_G (by rw [g4]; exact dg_ok (by omega) (by omega)) (dOk_L (fun q6 e6 => ?_))
  rw [g4, nr] at e6
  have hT4 : TS q4 := by rw [e4]; exact ts_set hTb (by decide) (show 0 ≤ Int32.toInt r1 by omega) (show Int32.toInt r1 ≤ 46079 by omega)
  have hT6 : TS q6 := by rw [e6]; exact ts_set hT4 (by decide) (show (0 : Int) ≤ Int32.toInt 0 by decide) (show Int32.toInt 0 ≤ (1000000 : Int) by decide)
  have hF6 : dFr [19, 21, 23] [] q3 q6 := by
    rw [e6]; refine dFr.i ?_ (by decide) (by decide)
    rw [e4]; refine dFr.i ?_ (by decide) (by decide)
    exact hFa.t hFb (by decide) (by decide)
  have far0 : q4.1 21 (Int32.toInt r1).toNat = 1000000 := by
    rw [e4, dui_o (by decide), b21]
    exact hfar _ (by omega)
  have hB : Bq 1 (q6.1 21) (q6.1 23) := by
    have hN := cN_eq
    have h1 : sm (fz (upd (q4.1 21) (Int32.toInt r1).toNat 0)) cN + fz (q4.1 21) (Int32.toInt r1).toNat = sm (fz (q4.1 21)) cN + fz (upd (q4.1 21) (Int32.toInt r1).toNat 0) (Int32.toInt r1).toNat := sm_upd (fun k hk => fz_o hk) cN (by rw [hN]; omega)
    rw [fz_e, if_neg (by decide)] at h1
    have h2 : fz (q4.1 21) (Int32.toInt r1).toNat = 1 := by unfold fz; rw [if_pos far0]
    have h3 := sm_le (fz_le (q4.1 21)) cN
    refine ⟨?_, fun j hj => ?_⟩
    · rw [e6, dui_s]; unfold cF; omega
    · have : j = 0 := by omega
      subst this
      have g6 : q6.1 23 0 = r1 := by rw [e6, dui_o (by decide)]; exact g4
      rw [g6]
      refine ⟨by omega, by omega, ?_⟩
      rw [e6, dui_e]
      decide
  unfold zX10_laysReach_57
  refine dFix_ok (fun (a : dS × Int32 × Int32) => TS a.1 ∧ dFr [19, 21, 23] [] q3 a.1 ∧ ∃ n i : Nat, a.2.1 = nI n ∧ a.2.2 = nI i ∧ i ≤ n ∧ Bq n (a.1.1 21) (a.1.1 23)) (fun (a : dS × Int32 × Int32) => (46081 - Int32.toInt a.2.2).toNat) ?_ _ ⟨hT6, hF6, 1, 0, (show (1 : Int32) = nI 1 from rfl), rfl, by omega, hB⟩ _ (dF_gt (by show (46081 - Int32.toInt 0).toNat < 1000000000000; rw [show Int32.toInt 0 = (0 : Int) by decide]; omega))
  intro a ha k57 hk57
  obtain ⟨qc, x1, x2⟩ := a
  obtain ⟨hTc, hFc, n, i, en, ei, hin, hBc⟩ := ha
  replace hTc : TS qc := hTc
  replace hFc : dFr [19, 21, 23] [] q3 qc := hFc
  replace en : x1 = nI n := en
  replace ei : x2 = nI i := ei
  replace hBc : Bq n (qc.1 21) (qc.1 23) := hBc
  subst en ei
  have hn := hBc.1
  have tn : Int32.toInt (nI n) = (n : Int) := nI_toInt (by omega)
  have ti : Int32.toInt (nI i) = (i : Int) := nI_toInt (by omega)
  show dOk (zX10_laysReach_57b (fun q x1 x2 => k57 (q, x1, x2)) qc (nI n) (nI i)) _
  unfold zX10_laysReach_57b
  refine dOk_le tn ti (fun c => dOk_some ⟨hTc, hF3'.t hFc (by decide) (by decide), ?_, ?_⟩) (fun c => ?_)
  · show Int32.toInt (qc.1 0 37) = _
    rw [hFc.2 37 (by decide)]; exact e37
  · show Int32.toInt (qc.1 0 38) = _
    rw [hFc.2 38 (by decide)]; exact e38
  unfold zX10_laysReach_64
  refine dFix_ok (fun (a : dS × Int32 × Int32 × Int32) => TS a.1 ∧ dFr [19, 21, 23] [] q3 a.1 ∧ a.2.2.1 = nI i ∧ (∃ n : Nat, a.2.1 = nI n ∧ i < n ∧ Bq n (a.1.1 21) (a.1.1 23)) ∧ 1 ≤ a.2.2.2.toInt ∧ a.2.2.2.toInt ≤ 7) (fun (a : dS × Int32 × Int32 × Int32) => (7 - Int32.toInt a.2.2.2).toNat) ?_ _ ⟨hTc, hFc, rfl, ⟨n, rfl, by omega, hBc⟩, by show (1 : Int) ≤ Int32.toInt 1; decide, by show Int32.toInt 1 ≤ (7 : Int); decide⟩ _ (dF_gt (by show (7 - Int32.toInt 1).toNat < 1000000000000; decide))
  intro a ha k64 hk64
  obtain ⟨qd, y1, y2, y3⟩ := a
  obtain ⟨hTd, hFd, e2, ⟨n', e1, hi', hBd⟩, y30, y31⟩ := ha
  replace hTd : TS qd := hTd
  replace hFd : dFr [19, 21, 23] [] q3 qd := hFd
  replace e2 : y2 = nI i := e2
  replace e1 : y1 = nI n' := e1
  replace hBd : Bq n' (qd.1 21) (qd.1 23) := hBd
  replace y30 : 1 ≤ y3.toInt := y30
  replace y31 : y3.toInt ≤ 7 := y31
  subst e1 e2
  have hn' := hBd.1
  have tn' : Int32.toInt (nI n') = (n' : Int) := nI_toInt (by omega)
  have ni : Int32.toNatClampNeg (nI i) = i := nI_clamp (by omega)
  have nn : Int32.toNatClampNeg (nI n') = n' := nI_clamp (by omega)
  show dOk (zX10_laysReach_64b _ (fun q x1 x2 x3 => k64 (q, x1, x2, x3)) qd (nI n') (nI i) y3) _
  unfold zX10_laysReach_64b zX10_laysReach_146
  refine dOk_B (ok_size qd hTd) (fun r1 qe hr => ?_)
  have ee : qe = qd := hr.1
  have hr6 : 0 ≤ Int32.toInt r1 ∧ Int32.toInt r1 ≤ 6 := hr.2.2
  subst ee
  refine dOk_lt rfl rfl (fun c3 => ?_) (fun c3 => ?_)
  · have t1 : Int32.toInt (nI i + 1) = (i : Int) + 1 := ti_add ti (by decide) (by omega) (by omega)
    refine hk57 (qe, nI n', nI i + 1) ⟨hTd, hFd, n', i + 1, rfl, nI_1 i, by omega, hBd⟩ ?_
    show (46081 - Int32.toInt (nI i + 1)).toNat < (46081 - Int32.toInt (nI i)).toNat
    omega
  have y3p : Int32.toInt (y3 + 1) = y3.toInt + 1 := ti_add rfl (by decide) (by omega) (by omega)
  have hgo : ∀ (q' : dS) (m : Nat), TS q' → dFr [19, 21, 23] [] q3 q' → i < m → Bq m (q'.1 21) (q'.1 23) → dOk (k64 (q', nI m, nI i, y3 + 1)) (fun (o : Int32 × dS) => (TS o.2) ∧ (dFr [12, 16, 17, 18, 19, 20, 21, 23] [22, 23, 24, 25, 37, 38] q o.2) ∧ (Int32.toInt (o.2.1 0 37) = facI (Int32.toInt (q.1 2 29))) ∧ (Int32.toInt (o.2.1 0 38) = powI (Int32.toInt (q.1 2 29)))) := by
    intro q' m hT' hF' hm' hB'
    refine hk64 (q', nI m, nI i, y3 + 1) ⟨hT', hF', rfl, ⟨m, rfl, hm', hB'⟩, ?_, ?_⟩ ?_
    · show 1 ≤ Int32.toInt (y3 + 1)
      omega
    · show Int32.toInt (y3 + 1) ≤ 7
      omega
    · show (7 - Int32.toInt (y3 + 1)).toNat < (7 - Int32.toInt y3).toNat
      omega
  refine dOk_G (dg_ok (by omega) (by omega)) (dOk_L (fun v5 e5 => ?_))
  rw [ni] at e5
  have f5 := hBd.2 i hi'
  rw [← e5] at f5
  refine dOk_B (ok_behind qe v5 y3 hTd ⟨by omega, by omega⟩ ⟨by omega, by omega⟩) (fun r6 qf hf => ?_)
  have ef : qf = qe := hf.1
  have hr66 : 0 ≤ Int32.toInt r6 ∧ Int32.toInt r6 ≤ 46079 := hf.2
  subst ef
  refine dOk_G (dg_ok (by omega) (by omega)) (dOk_L (fun v10 e10 => ?_))
  rw [ni, ← e5] at e10
  subst e10
  refine dOk_B (ok_priceOf qf v10 y3 hTd ⟨by omega, by omega⟩ ⟨by omega, by omega⟩) (fun r11 qg hg => ?_)
  have eg : qg = qf := hg.1
  subst eg
  refine dOk_eq rfl rfl (fun _ _ => hgo qg n' hTd hFd hi' hBd) (fun _ _ => ?_)
  refine dOk_G (dg_ok (by omega) (by omega)) (dOk_L (fun v15 e15 => ?_))
  have n6 : Int32.toNatClampNeg r6 = (Int32.toInt r6).toNat := rfl
  rw [n6] at e15
  refine dOk_le (A := 1000000) (B := v15.toInt) (by decide) rfl (fun c15 => ?_) (fun _ => hgo qg n' hTd hFd hi' hBd)
  have f15 : 0 ≤ Int32.toInt v15 ∧ Int32.toInt v15 ≤ 1000000 := by rw [e15]; exact hTd.1 21 _
  have hfar6 : qg.1 21 (Int32.toInt r6).toNat = 1000000 := by
    rw [← e15]
    apply Int32.toInt_inj.mp
    rw [show (1000000 : Int32).toInt = 1000000 by decide]
    omega
  refine dOk_G (dg_ok (by omega) (by omega)) (dOk_L (fun v17 e17 => ?_))
  rw [ni, ← e5] at e17
  subst e17
  refine dOk_G (dg_ok (by omega) (by omega)) (dOk_L (fun v19 e19 => ?_))
  have n17 : Int32.toNatClampNeg v17 = (Int32.toInt v17).toNat := rfl
  rw [n17] at e19
  have f19 : 0 ≤ Int32.toInt v19 ∧ Int32.toInt v19 ≤ 1000000 := by rw [e19]; exact hTd.1 21 _
  have f19' : Int32.toInt v19 ≤ (i : Int) := by rw [e19]; exact f5.2.2
  have t19 : Int32.toInt (v19 + 1) = v19.toInt + 1 := ti_add rfl (by decide) (by omega) (by omega)
  have hpush := B_push (v := v19 + 1) (x := r6) (w := (Int32.toInt r6).toNat) hBd hi' (by omega) hfar6 (by rw [t19, ← e5, e19]) (by omega) (by omega)
  refine dOk_G (dg_ok (by omega) (by omega)) (dOk_L (fun q21 e21 => ?_))
  rw [n6] at e21
  have hT21 : TS q21 := by rw [e21]; exact ts_set hTd (by decide) (show 0 ≤ Int32.toInt (v19 + 1) by omega) (show Int32.toInt (v19 + 1) ≤ 1000000 by omega)
  refine dOk_G (dg_ok (by omega) (by have := hpush.1; omega)) (dOk_L (fun q23 e23 => ?_))
  rw [nn] at e23
  have hT23 : TS q23 := by rw [e23]; exact ts_set hT21 (by decide) (show 0 ≤ Int32.toInt r6 by omega) (show Int32.toInt r6 ≤ 46079 by omega)
  have hF23 : dFr [19, 21, 23] [] q3 q23 := by
    rw [e23]; refine dFr.i ?_ (by decide) (by decide)
    rw [e21]; exact hFd.i (by decide) (by decide)
  have s1 : nI n' + 1 = nI (n' + 1) := nI_1 n'
  rw [s1]
  refine hgo q23 (n' + 1) hT23 hF23 (by omega) ?_
  rw [e23, dui_s, dui_o (by decide), e21, dui_s, dui_o (by decide)]
  exact hpush.2
