def wz (w : Nat → Int32) (i : Nat) : Nat := if w i = 0 then 0 else 1
theorem wz_le (w : Nat → Int32) (i : Nat) : wz w i ≤ 1 := by
  unfold wz
  by_cases c : w i = 0
  · rw [if_pos c]; exact Nat.zero_le 1
  · rw [if_neg c]; exact Nat.le_refl 1
theorem wz_o {f : Nat → Int32} {i k : Nat} {v : Int32} (h : ¬ k = i) : wz (upd f i v) k = wz f k := by
  unfold wz
  rw [show upd f i v k = f k from if_neg h]
theorem wz_e {f : Nat → Int32} {i : Nat} {v : Int32} : wz (upd f i v) i = if v = 0 then 0 else 1 := by
  unfold wz
  rw [show upd f i v i = v from if_pos rfl]
noncomputable def cW (w : Nat → Int32) : Nat := sm (wz w) cN
theorem cW_le (w : Nat → Int32) : cW w ≤ 46080 := by
  have hN := cN_eq
  have := sm_le (wz_le w) cN
  unfold cW
  omega
theorem cW_dn {w : Nat → Int32} {i : Nat} {v : Int32} (hi : i < 46080) : cW w ≤ cW (upd w i v) + 1 := by
  have h1 : sm (wz (upd w i v)) cN + wz w i = sm (wz w) cN + wz (upd w i v) i := sm_upd (fun k hk => wz_o hk) cN (by rw [cN_eq]; exact hi)
  have h2 := wz_le w i
  unfold cW
  omega
theorem cW_up {w : Nat → Int32} {i : Nat} {v : Int32} (hi : i < 46080) (h0 : w i = 0) (hv : ¬ v = 0) : cW (upd w i v) = cW w + 1 := by
  have h1 : sm (wz (upd w i v)) cN + wz w i = sm (wz w) cN + wz (upd w i v) i := sm_upd (fun k hk => wz_o hk) cN (by rw [cN_eq]; exact hi)
  have h2 : wz w i = 0 := by unfold wz; rw [if_pos h0]
  rw [wz_e, if_neg hv, h2] at h1
  unfold cW
  omega
def sdz (d : Nat → Int32) (i : Nat) : Nat := (d i).toInt.toNat
noncomputable def sd (d : Nat → Int32) : Nat := sm (sdz d) cN
theorem sd_upd {d : Nat → Int32} {i : Nat} {v : Int32} (hi : i < 46080) : sd (upd d i v) + (d i).toInt.toNat = sd d + v.toInt.toNat := by
  have h1 : sm (sdz (upd d i v)) cN + sdz d i = sm (sdz d) cN + sdz (upd d i v) i := sm_upd (fun k hk => by unfold sdz; rw [show upd d i v k = d k from if_neg hk]) cN (by rw [cN_eq]; exact hi)
  have h2 : sdz (upd d i v) i = v.toInt.toNat := by unfold sdz; rw [show upd d i v i = v from if_pos rfl]
  have h3 : sdz d i = (d i).toInt.toNat := rfl
  unfold sd
  omega
theorem sd_le {q : dS} (h : TS q) : sd (q.1 21) ≤ 1000000 * 46080 := by
  have z0 : sd (q.1 21) ≤ 1000000 * cN := by
    refine sm_le (b := 1000000) (fun k => ?_) cN
    have z : (q.1 21 k).toInt ≤ 1000000 := (h.1 21 k).2
    unfold sdz
    omega
  rw [cN_eq] at z0
  exact z0
theorem nar_b1 : vp_nar .boolean 1 = 1 := rfl
theorem nar_b0 : vp_nar .boolean 0 = 0 := rfl
set_option maxRecDepth 100000 in
set_option maxHeartbeats 4000000 in
theorem ok_cheapest (q : dS) (hT : TS q) : dOk (zX10_cheapest q) (fun (o : Int32 × dS) => (TS o.2) ∧ (dFr [12, 16, 17, 18, 19, 20, 21, 23, 24] [22, 23, 24, 25, 37, 38] q o.2)) := by
  unfold zX10_cheapest
  refine dOk_V (ok_laysPrices q hT) (fun q3 h3 => ?_)
  obtain ⟨hT3, hF3, e37, e38⟩ := h3
  have hF3' : dFr [12, 16, 17, 18, 19, 20, 21, 23, 24] [22, 23, 24, 25, 37, 38] q q3 := hF3.w (by decide) (by decide)
  have f37 : 0 ≤ Int32.toInt (q3.1 0 37) ∧ Int32.toInt (q3.1 0 37) ≤ 720 := hT3.1 0 37
  have d0 : (0 : Int32).toInt = 0 := by decide
  have h89 : ∀ (q6 : dS) (n0 : Nat), TS q6 → dFr [19, 21, 23, 24] [] q3 q6 → n0 ≤ cW (q6.1 24) → dOk (zX10_cheapest_89 dF q6 (nI n0) 0) (fun (o : Int32 × dS) => (TS o.2) ∧ (dFr [12, 16, 17, 18, 19, 20, 21, 23, 24] [22, 23, 24, 25, 37, 38] q o.2)) := by
    intro q6 n0 hT6 hF6 hn6
    have hc6 := cW_le (q6.1 24)
    have hs6 := sd_le hT6
    have tn0 : Int32.toInt (nI n0) = (n0 : Int) := nI_toInt (by omega)
    unfold zX10_cheapest_89
    refine dFix_ok (fun (a : dS × Int32 × Int32) => TS a.1 ∧ dFr [19, 21, 23, 24] [] q3 a.1 ∧ (∃ n : Nat, a.2.1 = nI n ∧ n ≤ cW (a.1.1 24)) ∧ 0 ≤ a.2.2.toInt ∧ a.2.2.toInt < 46080) (fun (a : dS × Int32 × Int32) => sd (a.1.1 21) + (Int32.toInt a.2.1).toNat) ?_ _ ⟨hT6, hF6, ⟨n0, rfl, hn6⟩, (show (0 : Int) ≤ Int32.toInt 0 by omega), (show Int32.toInt 0 < (46080 : Int) by omega)⟩ _ (dF_gt (by show sd (q6.1 21) + (Int32.toInt (nI n0)).toNat < 1000000000000; omega))
    intro a ha k89 hk89
    obtain ⟨qa, x1, x2⟩ := a
    obtain ⟨hTa, hFa, ⟨n, en, hna⟩, x20, x21⟩ := ha
    replace hTa : TS qa := hTa
    replace hFa : dFr [19, 21, 23, 24] [] q3 qa := hFa
    replace en : x1 = nI n := en
    replace hna : n ≤ cW (qa.1 24) := hna
    replace x20 : 0 ≤ x2.toInt := x20
    replace x21 : x2.toInt < 46080 := x21
    subst en
    have hca := cW_le (qa.1 24)
    have tn : Int32.toInt (nI n) = (n : Int) := nI_toInt (by omega)
    show dOk (zX10_cheapest_89b (fun q x1 x2 => k89 (q, x1, x2)) qa (nI n) x2) _
    unfold zX10_cheapest_89b zX10_cheapest_259
    refine dOk_le (A := (n : Int)) (B := 0) tn d0 (fun c => ?_) (fun c => ?_)
    · refine dOk_B (ok_towerNow qa hTa) (fun r1 qb hb => ?_)
      obtain ⟨hTb, hFb, r0, _⟩ := hb
      replace hTb : TS qb := hTb
      replace r0 : 0 ≤ Int32.toInt r1 ∧ Int32.toInt r1 ≤ 46079 := r0
      have hFz : dFr [12, 16, 17, 18, 19, 20, 21, 23, 24] [22, 23, 24, 25, 37, 38] q qb := (hF3'.t hFa (by decide) (by decide)).t hFb (by decide) (by decide)
      refine dOk_G (dg_ok (by omega) (by omega)) (dOk_L (fun v5 _ => ?_))
      exact dOk_eq rfl rfl (fun _ _ => dOk_some ⟨hTb, hFz⟩) (fun _ _ => dOk_some ⟨hTb, hFz⟩)
    refine dOk_G (dg_ok (by omega) (by omega)) (dOk_L (fun v7 e7 => dOk_L (fun v8 e8 => ?_)))
    have f7 : 0 ≤ Int32.toInt v7 ∧ Int32.toInt v7 ≤ 46079 := by rw [e7]; exact hTa.1 23 _
    have t8 : Int32.toInt (x2 + 1) = x2.toInt + 1 := ti_add rfl (by decide) (by omega) (by omega)
    have t8' : Int32.toInt v8 = (x2.toInt + 1) % 46080 := by rw [e8]; exact ti_rem t8 (by decide) (by omega) (by omega)
    have n7 : Int32.toNatClampNeg v7 = (Int32.toInt v7).toNat := rfl
    refine dOk_G (dg_ok (by omega) (by omega)) (dOk_L (fun q10 e10 => ?_))
    rw [n7] at e10
    have hT10 : TS q10 := by rw [e10]; exact ts_any hTa rfl
    have hF10 : dFr [19, 21, 23, 24] [] q3 q10 := by rw [e10]; exact hFa.i (by decide) (by decide)
    have g21 : q10.1 21 = qa.1 21 := by rw [e10, dui_o (by decide)]
    have g24 : cW (qa.1 24) ≤ cW (q10.1 24) + 1 := by rw [e10, dui_s]; exact cW_dn (by omega)
    obtain ⟨m, em⟩ : ∃ m : Nat, n = m + 1 := ⟨n - 1, by omega⟩
    have e1 : nI n + (-1) = nI m := by rw [em]; exact pk_m1 m
    rw [e1]
    generalize hS : sd (qa.1 21) + n = S0
    have hmu : ∀ (q' : dS) (m' : Nat), m' ≤ 46080 → sd (q'.1 21) + m' < S0 → sd (q'.1 21) + (Int32.toInt (nI m')).toNat < sd (qa.1 21) + (Int32.toInt (nI n)).toNat := by
      intro q' m' hm' hs'
      have : Int32.toInt (nI m') = (m' : Int) := nI_toInt (by omega)
      omega
    unfold zX10_cheapest_120
    refine dFix_ok (fun (a : dS × Int32 × Int32 × Int32 × Int32) => TS a.1 ∧ dFr [19, 21, 23, 24] [] q3 a.1 ∧ a.2.2.1 = v8 ∧ a.2.2.2.1 = v7 ∧ (∃ m : Nat, a.2.1 = nI m ∧ m ≤ cW (a.1.1 24) ∧ sd (a.1.1 21) + m + 1 ≤ S0) ∧ 1 ≤ a.2.2.2.2.toInt ∧ a.2.2.2.2.toInt ≤ 7) (fun (a : dS × Int32 × Int32 × Int32 × Int32) => (7 - Int32.toInt a.2.2.2.2).toNat) ?_ _ ⟨hT10, hF10, rfl, rfl, ⟨m, rfl, (show m ≤ cW (q10.1 24) by omega), (show sd (q10.1 21) + m + 1 ≤ S0 by rw [g21]; omega)⟩, by show (1 : Int) ≤ Int32.toInt 1; decide, by show Int32.toInt 1 ≤ (7 : Int); decide⟩ _ (dF_gt (by show (7 - Int32.toInt 1).toNat < 1000000000000; decide))
    intro a ha k64 hk64
    obtain ⟨qd, y1, y2, y5, y3⟩ := a
    obtain ⟨hTd, hFd, e2, e5, ⟨m1, em1, hm1, hsd1⟩, y30, y31⟩ := ha
    replace hTd : TS qd := hTd
    replace hFd : dFr [19, 21, 23, 24] [] q3 qd := hFd
    replace e2 : y2 = v8 := e2
    replace e5 : y5 = v7 := e5
    replace em1 : y1 = nI m1 := em1
    replace hm1 : m1 ≤ cW (qd.1 24) := hm1
    replace hsd1 : sd (qd.1 21) + m1 + 1 ≤ S0 := hsd1
    replace y30 : 1 ≤ y3.toInt := y30
    replace y31 : y3.toInt ≤ 7 := y31
    subst em1
    rw [← e2] at t8'
    rw [← e5] at f7
    have hcd := cW_le (qd.1 24)
    have tm1 : Int32.toInt (nI m1) = (m1 : Int) := nI_toInt (by omega)
    show dOk (zX10_cheapest_120b _ (fun q x1 x2 x3 x4 => k64 (q, x1, x2, x3, x4)) qd (nI m1) y2 y5 y3) _
    unfold zX10_cheapest_120b
    refine dOk_B (ok_size qd hTd) (fun r1 qe hr => ?_)
    have ee : qe = qd := hr.1
    have hr6 : 0 ≤ Int32.toInt r1 ∧ Int32.toInt r1 ≤ 6 := hr.2.2
    subst ee
    refine dOk_lt rfl rfl (fun c3 => ?_) (fun c3 => ?_)
    · refine hk89 (qe, nI m1, y2) ⟨hTd, hFd, ⟨m1, rfl, hm1⟩, (show 0 ≤ Int32.toInt y2 by omega), (show Int32.toInt y2 < 46080 by omega)⟩ ?_
      exact hmu qe m1 (by omega) (by omega)
    have y3p : Int32.toInt (y3 + 1) = y3.toInt + 1 := ti_add rfl (by decide) (by omega) (by omega)
    have h229 : ∀ (q' : dS) (m' : Nat), TS q' → dFr [19, 21, 23, 24] [] q3 q' → m' ≤ cW (q'.1 24) → sd (q'.1 21) + m' + 1 ≤ S0 → dOk (zX10_cheapest_229 (fun q x1 x2 => k89 (q, x1, x2)) (fun q x1 x2 x3 x4 => k64 (q, x1, x2, x3, x4)) q' (nI m') y2 y5 y3) (fun (o : Int32 × dS) => (TS o.2) ∧ (dFr [12, 16, 17, 18, 19, 20, 21, 23, 24] [22, 23, 24, 25, 37, 38] q o.2)) := by
      intro q' m' hT' hF' hm' hs'
      unfold zX10_cheapest_229
      refine hk64 (q', nI m', y2, y5, y3 + 1) ⟨hT', hF', e2, e5, ⟨m', rfl, hm', hs'⟩, ?_, ?_⟩ ?_
      · show 1 ≤ Int32.toInt (y3 + 1)
        omega
      · show Int32.toInt (y3 + 1) ≤ 7
        omega
      · show (7 - Int32.toInt (y3 + 1)).toNat < (7 - Int32.toInt y3).toNat
        omega
    refine dOk_B (ok_behind qe y5 y3 hTd ⟨by omega, by omega⟩ ⟨by omega, by omega⟩) (fun r6 qf hf => ?_)
    have ef : qf = qe := hf.1
    have hr66 : 0 ≤ Int32.toInt r6 ∧ Int32.toInt r6 ≤ 46079 := hf.2
    subst ef
    refine dOk_B (ok_priceOf qf r6 y3 hTd ⟨by omega, by omega⟩ ⟨by omega, by omega⟩) (fun r11 qg hg => ?_)
    have eg : qg = qf := hg.1
    have hr11 : -1 ≤ Int32.toInt r11 ∧ Int32.toInt r11 ≤ 99 := hg.2
    subst eg
    refine dOk_eq (A := r11.toInt) (B := -1) rfl (by decide) (fun _ _ => h229 qg m1 hTd hFd hm1 hsd1) (fun _ c11 => ?_)
    have n5 : Int32.toNatClampNeg y5 = (Int32.toInt y5).toNat := rfl
    have n6 : Int32.toNatClampNeg r6 = (Int32.toInt r6).toNat := rfl
    refine dOk_G (dg_ok (by omega) (by omega)) (dOk_L (fun v11 e11 => dOk_G (dg_ok (by omega) (by omega)) (dOk_L (fun v13 e13 => ?_))))
    rw [n6] at e13
    have f11 : 0 ≤ Int32.toInt v11 ∧ Int32.toInt v11 ≤ 1000000 := by rw [e11]; exact hTd.1 21 _
    have f13 : 0 ≤ Int32.toInt v13 ∧ Int32.toInt v13 ≤ 1000000 := by rw [e13]; exact hTd.1 21 _
    have t11 : Int32.toInt (v11 + r11) = v11.toInt + r11.toInt := ti_add rfl rfl (by omega) (by omega)
    refine dOk_lt rfl rfl (fun c13 => ?_) (fun _ => h229 qg m1 hTd hFd hm1 hsd1)
    refine dOk_G (dg_ok (by omega) (by omega)) (dOk_L (fun v15 e15 => dOk_G (dg_ok (by omega) (by omega)) (dOk_L (fun q17 e17 => ?_))))
    rw [← e11] at e15
    rw [e15, n6] at e17
    have hT17 : TS q17 := by rw [e17]; exact ts_set hTd (by decide) (show 0 ≤ Int32.toInt (v11 + r11) by omega) (show Int32.toInt (v11 + r11) ≤ 1000000 by omega)
    have hF17 : dFr [19, 21, 23, 24] [] q3 q17 := by rw [e17]; exact hFd.i (by decide) (by decide)
    have g17 : q17.1 24 = qg.1 24 := by rw [e17, dui_o (by decide)]
    have s17 : sd (q17.1 21) + 1 ≤ sd (qg.1 21) := by
      have z := sd_upd (d := qg.1 21) (i := (Int32.toInt r6).toNat) (v := v11 + r11) (by omega)
      rw [← e13] at z
      rw [e17, dui_s]
      omega
    refine dOk_G (dg_ok (by omega) (by omega)) (dOk_L (fun v19 e19 => ?_))
    rw [n6] at e19
    refine dOk_eq rfl rfl (fun c19 _ => ?_) (fun _ _ => h229 q17 m1 hT17 hF17 (by rw [g17]; exact hm1) (by omega))
    refine dOk_G (dg_ok (by omega) (by omega)) (dOk_L (fun q21 e21 => ?_))
    rw [n6, nar_b1] at e21
    have hT21 : TS q21 := by rw [e21]; exact ts_any hT17 rfl
    have hF21 : dFr [19, 21, 23, 24] [] q3 q21 := by rw [e21]; exact hF17.i (by decide) (by decide)
    have c21 : cW (q21.1 24) = cW (qg.1 24) + 1 := by
      rw [e21, dui_s, g17]
      refine cW_up (by omega) ?_ (by decide)
      rw [← g17, ← e19]; exact c19
    have t22 : Int32.toInt (y2 + nI m1) = y2.toInt + m1 := ti_add rfl tm1 (by omega) (by omega)
    have t23 : Int32.toInt (y2 + nI m1 - (y2 + nI m1) / 46080 * 46080) = (y2.toInt + m1) % 46080 := ti_rem t22 (by decide) (by omega) (by omega)
    refine dOk_G (dg_ok (by omega) (by omega)) (dOk_L (fun q23 e23 => ?_))
    have hT23 : TS q23 := by rw [e23]; exact ts_set hT21 (by decide) (show 0 ≤ Int32.toInt r6 by omega) (show Int32.toInt r6 ≤ 46079 by omega)
    have hF23 : dFr [19, 21, 23, 24] [] q3 q23 := by rw [e23]; exact hF21.i (by decide) (by decide)
    have s1 : nI m1 + 1 = nI (m1 + 1) := nI_1 m1
    rw [s1]
    refine h229 q23 (m1 + 1) hT23 hF23 ?_ ?_
    · rw [e23, dui_o (by decide), c21]; omega
    · rw [e23, dui_o (by decide), e21, dui_o (by decide)]; omega
  unfold zX10_cheapest_8
  refine dFix_ok (fun (a : dS × Int32 × Int32) => TS a.1 ∧ dFr [19, 21, 23, 24] [] q3 a.1 ∧ ∃ n t : Nat, a.2.1 = nI n ∧ a.2.2 = nI t ∧ (t : Int) ≤ 64 * Int32.toInt (q3.1 0 37) ∧ n ≤ t ∧ n ≤ sm (wz (a.1.1 24)) t) (fun (a : dS × Int32 × Int32) => (46080 - Int32.toInt a.2.2).toNat) ?_ _ ⟨hT3, dFr.rf, 0, 0, rfl, rfl, by omega, by omega, by omega⟩ _ (dF_gt (by show (46080 - Int32.toInt 0).toNat < 1000000000000; rw [show Int32.toInt 0 = (0 : Int) by decide]; omega))
  intro a ha k hk
  obtain ⟨qa, x1, x2⟩ := a
  obtain ⟨hTa, hFa, n, t, en, et, ht, hnt, hcnt⟩ := ha
  replace hTa : TS qa := hTa
  replace hFa : dFr [19, 21, 23, 24] [] q3 qa := hFa
  replace en : x1 = nI n := en
  replace et : x2 = nI t := et
  replace hcnt : n ≤ sm (wz (qa.1 24)) t := hcnt
  subst en et
  have tt : Int32.toInt (nI t) = (t : Int) := nI_toInt (by omega)
  have nt : Int32.toNatClampNeg (nI t) = t := nI_clamp (by omega)
  have tn : Int32.toInt (nI n) = (n : Int) := nI_toInt (by omega)
  have nn : Int32.toNatClampNeg (nI n) = n := nI_clamp (by omega)
  have w37 : qa.1 0 37 = q3.1 0 37 := hFa.2 37 (by decide)
  have m37 : Int32.toInt (64 * qa.1 0 37) = 64 * Int32.toInt (q3.1 0 37) := by rw [w37]; exact ti_mul (by decide) rfl (by omega) (by omega)
  show dOk (zX10_cheapest_8b (fun q x1 x2 => k (q, x1, x2)) qa (nI n) (nI t)) _
  unfold zX10_cheapest_8b
  refine dOk_le m37 tt (fun c => ?_) (fun c => ?_)
  · refine h89 qa n hTa hFa ?_
    have hmono : ∀ m : Nat, t ≤ m → sm (wz (qa.1 24)) t ≤ sm (wz (qa.1 24)) m := by
      intro m
      induction m with
      | zero => intro h; have : t = 0 := by omega
                subst this; exact Nat.le_refl _
      | succ m ih =>
        intro h
        by_cases z : t = m + 1
        · subst z; exact Nat.le_refl _
        · have := ih (by omega)
          show _ ≤ sm (wz (qa.1 24)) m + wz (qa.1 24) m
          omega
    have := hmono cN (by rw [cN_eq]; omega)
    unfold cW
    omega
  have t1 : Int32.toInt (nI t + 1) = (t : Int) + 1 := ti_add tt (by decide) (by omega) (by omega)
  have h40 : ∀ y0 : Int32, (y0 = 0 ∨ y0 = 1) → dOk (zX10_cheapest_40 (fun q x1 x2 => k (q, x1, x2)) qa (nI n) (nI t) y0) (fun (o : Int32 × dS) => (TS o.2) ∧ (dFr [12, 16, 17, 18, 19, 20, 21, 23, 24] [22, 23, 24, 25, 37, 38] q o.2)) := by
    have hst : ∀ (v w : Int32), 0 ≤ v.toInt → v.toInt ≤ 1000000 → ∀ q2 q4 : dS, q2 = dui qa 21 t v → q4 = dui q2 24 t w → TS q4 ∧ dFr [19, 21, 23, 24] [] q3 q4 ∧ q4.1 24 = upd (qa.1 24) t w ∧ sm (wz (q4.1 24)) (t + 1) = sm (wz (qa.1 24)) t + (if w = 0 then 0 else 1) := by
      intro v w hv0 hv1 q2 q4 e2 e4
      have g24 : q4.1 24 = upd (qa.1 24) t w := by rw [e4, dui_s, e2, dui_o (by decide)]
      refine ⟨?_, ?_, g24, ?_⟩
      · rw [e4]; refine ts_any ?_ rfl
        rw [e2]; exact ts_set hTa (by decide) hv0 hv1
      · rw [e4]; refine dFr.i ?_ (by decide) (by decide)
        rw [e2]; exact hFa.i (by decide) (by decide)
      · rw [g24]
        show sm (wz (upd (qa.1 24) t w)) t + wz (upd (qa.1 24) t w) t = _
        rw [wz_e, sm_same t (fun k hk => wz_o (by omega))]
    intro y0 hy
    unfold zX10_cheapest_40 zX10_cheapest_56 zX10_cheapest_81
    rcases hy with e | e
    · subst e
      rw [if_pos rfl]
      refine dOk_G (dg_ok (by omega) (by omega)) (dOk_L (fun q2 e2 => dOk_G (dg_ok (by omega) (by omega)) (dOk_L (fun q4 e4 => ?_))))
      rw [nt] at e2
      rw [nt, nar_b0] at e4
      rw [if_pos rfl]
      obtain ⟨s1, s2, s3, s5⟩ := hst 1000000 0 (by decide) (by decide) q2 q4 e2 e4
      rw [if_pos rfl] at s5
      refine hk (q4, nI n, nI t + 1) ⟨s1, s2, n, t + 1, rfl, nI_1 t, by omega, by omega, ?_⟩ ?_
      · show n ≤ sm (wz (q4.1 24)) (t + 1)
        omega
      · show (46080 - Int32.toInt (nI t + 1)).toNat < (46080 - Int32.toInt (nI t)).toNat
        omega
    · subst e
      rw [if_neg (by decide)]
      refine dOk_G (dg_ok (by omega) (by omega)) (dOk_L (fun q2 e2 => dOk_G (dg_ok (by omega) (by omega)) (dOk_L (fun q4 e4 => ?_))))
      rw [nt] at e2
      rw [nt, nar_b1] at e4
      rw [if_neg (by decide)]
      obtain ⟨s1, s2, s3, s5⟩ := hst 0 1 (by decide) (by decide) q2 q4 e2 e4
      rw [if_neg (by decide)] at s5
      refine dOk_G (dg_ok (by omega) (by omega)) (dOk_L (fun q6 e6 => ?_))
      rw [nn] at e6
      refine hk (q6, nI n + 1, nI t + 1) ⟨?_, ?_, n + 1, t + 1, nI_1 n, nI_1 t, by omega, by omega, ?_⟩ ?_
      · show TS q6
        rw [e6]; exact ts_set s1 (by decide) (show 0 ≤ Int32.toInt (nI t) by omega) (show Int32.toInt (nI t) ≤ 46079 by omega)
      · show dFr [19, 21, 23, 24] [] q3 q6
        rw [e6]; exact s2.i (by decide) (by decide)
      · show n + 1 ≤ sm (wz (q6.1 24)) (t + 1)
        rw [e6, dui_o (by decide)]
        omega
      · show (46080 - Int32.toInt (nI t + 1)).toNat < (46080 - Int32.toInt (nI t)).toNat
        omega
  refine dOk_B (ok_isThere qa (nI t) hTa (by omega)) (fun r1 qb hb => ?_)
  have eb : qb = qa := hb.1
  subst eb
  unfold zX10_cheapest_39
  refine dOk_eq rfl rfl (fun _ _ => h40 0 (Or.inl rfl)) (fun _ _ => ?_)
  refine dOk_B (ok_isOrdered qb (nI t) hTa (by omega)) (fun r4 qc hc => ?_)
  have ec : qc = qb := hc.1
  subst ec
  exact dOk_eq rfl rfl (fun _ _ => h40 0 (Or.inl rfl)) (fun _ _ => h40 1 (Or.inr rfl))
