/-! orders by number -/
theorem fac_rg (n : Int) : 1 ≤ facI n ∧ facI n ≤ 720 := by
  unfold facI
  repeat' split
  all_goals exact ⟨by decide, by decide⟩
theorem fac_v {x : Int32} (h0 : 0 ≤ x.toInt) (h1 : x.toInt ≤ 6) : (([1, 1, 2, 6, 24, 120, 720] : List Int32).getD (Int32.toNatClampNeg x) 0).toInt = facI x.toInt := by
  have h2 := cl_eq h0
  have h3 := fac_L (Int32.toNatClampNeg x) (by omega)
  rw [h2] at h3
  exact h3
theorem ok_X3_setDigits_s32 (q : dK) (p1 : Int32) (hT : TC q) (hp0 : 0 ≤ Int32.toInt p1) : dOk (zX3_setDigits_s32 q p1) (fun (o : dK) => (TC o) ∧ (cFr [34] [] q o) ∧ (0 ≤ Int32.toInt (o.1 34 0)) ∧ (Int32.toInt (o.1 34 0) ≤ 5)) := by
  unfold zX3_setDigits_s32 zX3_setDigits_s32_2
  refine dFix_ok (fun (a : dK × Int32 × Int32) => TC a.1 ∧ cFr [34] [] q a.1 ∧ a.2.1 = p1 ∧ 0 ≤ a.2.2.toInt ∧ a.2.2.toInt ≤ 6 ∧ (1 ≤ a.2.2.toInt → 0 ≤ (a.1.1 34 0).toInt ∧ (a.1.1 34 0).toInt ≤ a.2.2.toInt - 1)) (fun (a : dK × Int32 × Int32) => (6 - a.2.2.toInt).toNat) ?_ _ ⟨hT, cFr.rf, rfl, by show 0 ≤ Int32.toInt 0; decide, by show Int32.toInt 0 ≤ 6; decide, fun z => absurd z (by show ¬ 1 ≤ Int32.toInt 0; decide)⟩ _ (dF_gt (by show (6 - Int32.toInt 0).toNat < 1000000000000; decide))
  intro a ha k2 hk2
  obtain ⟨qa, x1, x2⟩ := a
  obtain ⟨a0, a1, a2, a3, a4, a5⟩ := ha
  replace a0 : TC qa := a0
  replace a1 : cFr [34] [] q qa := a1
  replace a2 : x1 = p1 := a2
  replace a3 : 0 ≤ x2.toInt := a3
  replace a4 : x2.toInt ≤ 6 := a4
  replace a5 : 1 ≤ x2.toInt → 0 ≤ (qa.1 34 0).toInt ∧ (qa.1 34 0).toInt ≤ x2.toInt - 1 := a5
  subst a2
  show dOk (zX3_setDigits_s32_2b (fun q x1 x2 => k2 (q, x1, x2)) qa x1 x2) _
  unfold zX3_setDigits_s32_2b
  refine dOk_le (by decide : Int32.toInt 6 = 6) rfl (fun c => dOk_some ⟨a0, a1, (a5 (by omega)).1, by have := (a5 (by omega)).2; show Int32.toInt (qa.1 34 0) ≤ 5; omega⟩) (fun c => ?_)
  have hf := fac_v a3 (by omega)
  have hf2 := fac_rg x2.toInt
  refine dOk_G (dg_ok a3 (by omega)) (dOk_L (fun v2 e2 => ?_))
  rw [← e2] at hf
  have t1 : Int32.toInt (x2 + 1) = x2.toInt + 1 := ti_add rfl (by decide) (by omega) (by omega)
  refine dOk_G (dnz_ok (by omega)) (dOk_G (dnz_ok (by omega)) (dOk_L (fun v5 e5 => ?_)))
  have d1 : Int32.toInt (x1 / v2) = x1.toInt / v2.toInt := ti_div rfl rfl hp0 (by omega)
  have d2 : 0 ≤ x1.toInt / v2.toInt := Int.ediv_nonneg hp0 (by omega)
  have d3 := ti_rem d1 t1 d2 (by omega)
  have d4 : 0 ≤ x1.toInt / v2.toInt % (x2.toInt + 1) := Int.emod_nonneg _ (by omega)
  have d5 : x1.toInt / v2.toInt % (x2.toInt + 1) < x2.toInt + 1 := Int.emod_lt_of_pos _ (by omega)
  have d6 : Int32.toInt v5 = x2.toInt - x1.toInt / v2.toInt % (x2.toInt + 1) := by rw [e5]; exact ti_sub rfl d3 (by omega) (by omega)
  clear d3
  unfold zX3_setDigits_s32_25
  refine dFix_ok (fun (a : dK × Int32 × Int32 × Int32 × Int32) => TC a.1 ∧ cFr [34] [] q a.1 ∧ a.2.1 = x1 ∧ a.2.2.1 = x2 ∧ a.2.2.2.1 = v5 ∧ 0 ≤ a.2.2.2.2.toInt ∧ a.2.2.2.2.toInt ≤ x2.toInt ∧ (1 ≤ x2.toInt → 0 ≤ (a.1.1 34 0).toInt ∧ (a.1.1 34 0).toInt ≤ x2.toInt ∧ (a.2.2.2.2.toInt = 0 → (a.1.1 34 0).toInt ≤ x2.toInt - 1))) (fun (a : dK × Int32 × Int32 × Int32 × Int32) => (x2.toInt - a.2.2.2.2.toInt).toNat) ?_ _ ⟨a0, a1, rfl, rfl, rfl, by show 0 ≤ Int32.toInt 0; decide, by show (0 : Int) ≤ x2.toInt; exact a3, fun z => ⟨(a5 z).1, by have := (a5 z).2; show (qa.1 34 0).toInt ≤ x2.toInt; omega, fun _ => (a5 z).2⟩⟩ _ (dF_gt (by show (x2.toInt - 0).toNat < 1000000000000; omega))
  intro a ha k25 hk25
  obtain ⟨qb, y1, y2, y3, x4⟩ := a
  obtain ⟨b0, b1, b2, b3, b4, b5, b6, b7⟩ := ha
  replace b0 : TC qb := b0
  replace b1 : cFr [34] [] q qb := b1
  replace b2 : x1 = y1 := Eq.symm b2
  replace b3 : x2 = y2 := Eq.symm b3
  replace b4 : v5 = y3 := Eq.symm b4
  replace b5 : 0 ≤ x4.toInt := b5
  replace b6 : x4.toInt ≤ x2.toInt := b6
  replace b7 : 1 ≤ x2.toInt → 0 ≤ (qb.1 34 0).toInt ∧ (qb.1 34 0).toInt ≤ x2.toInt ∧ (x4.toInt = 0 → (qb.1 34 0).toInt ≤ x2.toInt - 1) := b7
  subst b2 b3 b4
  show dOk (zX3_setDigits_s32_25b (fun q x1 x2 => k2 (q, x1, x2)) (fun q x1 x2 x3 x4 => k25 (q, x1, x2, x3, x4)) qb x1 x2 v5 x4) _
  unfold zX3_setDigits_s32_25b zX3_setDigits_s32_55
  refine dOk_le rfl rfl (fun c2 => ?_) (fun c2 => ?_)
  · refine dOk_G (dg_ok a3 (by omega)) (dOk_L (fun q2 eq2 => ?_))
    have n2 := cl_eq a3
    refine hk2 (q2, x1, x2 + 1) ⟨by rw [eq2]; exact sa_34 b0, by rw [eq2]; exact b1.i (by decide), rfl, by show 0 ≤ Int32.toInt (x2 + 1); omega, by show Int32.toInt (x2 + 1) ≤ 6; omega, fun _ => ?_⟩ (by show (6 - Int32.toInt (x2 + 1)).toNat < (6 - Int32.toInt x2).toNat; omega)
    show 0 ≤ Int32.toInt (q2.1 34 0) ∧ Int32.toInt (q2.1 34 0) ≤ Int32.toInt (x2 + 1) - 1
    rw [eq2]
    by_cases c3 : x2.toInt = 0
    · have e0 : Int32.toNatClampNeg x2 = 0 := by omega
      rw [e0, cui_e]
      omega
    · rw [cui_n (by omega)]
      have := b7 (by omega)
      omega
  · refine dOk_G (dg_ok b5 (by omega)) (dOk_L (fun v4 e4 => dOk_G (dg_ok b5 (by omega)) (dOk_L (fun v6 e6 => ?_))))
    have n4 := cl_eq b5
    have t4 : Int32.toInt (x4 + 1) = x4.toInt + 1 := ti_add rfl (by decide) (by omega) (by omega)
    refine dOk_lt rfl rfl (fun c4 => ?_) (fun c4 => ?_)
    all_goals
      refine dOk_V (ok_X9_bit _) (fun r1 hr => ?_)
      replace hr : Int32.toInt r1 = 0 ∨ Int32.toInt r1 = 1 := hr
      refine dOk_G (dg_ok b5 (by omega)) (dOk_L (fun q4 eq4 => ?_))
      refine hk25 (q4, x1, x2, v5, x4 + 1) ⟨by rw [eq4]; exact sa_34 b0, by rw [eq4]; exact b1.i (by decide), rfl, rfl, rfl, by show 0 ≤ Int32.toInt (x4 + 1); omega, by show Int32.toInt (x4 + 1) ≤ x2.toInt; omega, fun z => ?_⟩ (by show (x2.toInt - Int32.toInt (x4 + 1)).toNat < (x2.toInt - Int32.toInt x4).toNat; omega)
      show 0 ≤ Int32.toInt (q4.1 34 0) ∧ Int32.toInt (q4.1 34 0) ≤ x2.toInt ∧ (Int32.toInt (x4 + 1) = 0 → Int32.toInt (q4.1 34 0) ≤ x2.toInt - 1)
      have b8 := b7 z
      rw [eq4]
      by_cases c3 : x4.toInt = 0
      · have e0 : Int32.toNatClampNeg x4 = 0 := by omega
        have b9 := b8.2.2 c3
        rw [e0] at e4
        rw [← e4] at b8 b9
        have tv : Int32.toInt (v4 + r1) = v4.toInt + r1.toInt := ti_add rfl rfl (by omega) (by omega)
        rw [e0, cui_e, tv]
        omega
      · rw [cui_n (by omega)]
        omega
theorem fac_s {n : Int} (h0 : 0 ≤ n) (h1 : n ≤ 5) {x y : Int} (hx : x < facI n) (hy : y ≤ n) (hy0 : 0 ≤ y) : x + y * facI n < facI (n + 1) := by
  have hc : n = 0 ∨ n = 1 ∨ n = 2 ∨ n = 3 ∨ n = 4 ∨ n = 5 := by omega
  rcases hc with e | e | e | e | e | e
  · subst e; replace hx : x < 1 := hx; show x + y * 1 < 1; omega
  · subst e; replace hx : x < 1 := hx; show x + y * 1 < 2; omega
  · subst e; replace hx : x < 2 := hx; show x + y * 2 < 6; omega
  · subst e; replace hx : x < 6 := hx; show x + y * 6 < 24; omega
  · subst e; replace hx : x < 24 := hx; show x + y * 24 < 120; omega
  · subst e; replace hx : x < 120 := hx; show x + y * 120 < 720; omega
theorem ok_X3_numberOfOrder_s32 (q : dK) (hT : TC q) : dOk (zX3_numberOfOrder_s32 q) (fun (o : Int32 × dK) => (o.2 = q) ∧ (0 ≤ Int32.toInt o.1 ∧ Int32.toInt o.1 ≤ 719)) := by
  unfold zX3_numberOfOrder_s32 zX3_numberOfOrder_s32_4
  refine dFix_ok (fun (a : dK × Int32 × Int32) => a.1 = q ∧ 0 ≤ a.2.2.toInt ∧ a.2.2.toInt ≤ 6 ∧ 0 ≤ a.2.1.toInt ∧ a.2.1.toInt < facI a.2.2.toInt) (fun (a : dK × Int32 × Int32) => (6 - a.2.2.toInt).toNat) ?_ _ ⟨rfl, by show 0 ≤ Int32.toInt 0; decide, by show Int32.toInt 0 ≤ 6; decide, by show 0 ≤ Int32.toInt 0; decide, by show Int32.toInt 0 < facI (Int32.toInt 0); decide⟩ _ (dF_gt (by show (6 - Int32.toInt 0).toNat < 1000000000000; decide))
  intro a ha k4 hk4
  obtain ⟨qa, x1, x2⟩ := a
  obtain ⟨a0, a1, a2, a3, a4⟩ := ha
  replace a0 : q = qa := Eq.symm a0
  replace a1 : 0 ≤ x2.toInt := a1
  replace a2 : x2.toInt ≤ 6 := a2
  replace a3 : 0 ≤ x1.toInt := a3
  replace a4 : x1.toInt < facI x2.toInt := a4
  subst a0
  show dOk (zX3_numberOfOrder_s32_4b (fun q x1 x2 => k4 (q, x1, x2)) q x1 x2) _
  unfold zX3_numberOfOrder_s32_4b
  refine dOk_le (by decide : Int32.toInt 6 = 6) rfl (fun c => dOk_some ⟨rfl, a3, ?_⟩) (fun c => ?_)
  · have := (fac_rg x2.toInt).2
    show x1.toInt ≤ 719
    omega
  unfold zX3_numberOfOrder_s32_15
  refine dFix_ok (fun (a : dK × Int32 × Int32 × Int32 × Int32) => a.1 = q ∧ a.2.1 = x1 ∧ a.2.2.1 = x2 ∧ 0 ≤ a.2.2.2.1.toInt ∧ a.2.2.2.1.toInt ≤ a.2.2.2.2.toInt ∧ a.2.2.2.2.toInt ≤ x2.toInt) (fun (a : dK × Int32 × Int32 × Int32 × Int32) => (x2.toInt - a.2.2.2.2.toInt).toNat) ?_ _ ⟨rfl, rfl, rfl, by show 0 ≤ Int32.toInt 0; decide, by show Int32.toInt 0 ≤ Int32.toInt 0; decide, by show (0 : Int) ≤ x2.toInt; exact a1⟩ _ (dF_gt (by show (x2.toInt - 0).toNat < 1000000000000; omega))
  intro a ha k15 hk15
  obtain ⟨qb, y1, y2, x3, x4⟩ := a
  obtain ⟨b0, b2, b3, b4, b5, b6⟩ := ha
  replace b0 : q = qb := Eq.symm b0
  replace b2 : x1 = y1 := Eq.symm b2
  replace b3 : x2 = y2 := Eq.symm b3
  replace b4 : 0 ≤ x3.toInt := b4
  replace b5 : x3.toInt ≤ x4.toInt := b5
  replace b6 : x4.toInt ≤ x2.toInt := b6
  subst b0 b2 b3
  show dOk (zX3_numberOfOrder_s32_15b (fun q x1 x2 => k4 (q, x1, x2)) (fun q x1 x2 x3 x4 => k15 (q, x1, x2, x3, x4)) q x1 x2 x3 x4) _
  unfold zX3_numberOfOrder_s32_15b zX3_numberOfOrder_s32_43
  have t1 : Int32.toInt (x2 + 1) = x2.toInt + 1 := ti_add rfl (by decide) (by omega) (by omega)
  refine dOk_le rfl rfl (fun c2 => ?_) (fun c2 => ?_)
  · have hf := fac_v a1 (by omega)
    refine dOk_G (dg_ok a1 (by omega)) (dOk_L (fun v2 e2 => ?_))
    rw [← e2] at hf
    have h1 := fac_s a1 (by omega) a4 (y := x3.toInt) (by omega) b4
    have h2 := (fac_rg (x2.toInt + 1)).2
    have h3 := (fac_rg x2.toInt).1
    have h4 : 0 ≤ x3.toInt * facI x2.toInt := Int.mul_nonneg b4 (by omega)
    have m1 : Int32.toInt (x3 * v2) = x3.toInt * facI x2.toInt := ti_mul rfl hf (by omega) (by omega)
    have m2 : Int32.toInt (x1 + (x3 * v2)) = x1.toInt + x3.toInt * facI x2.toInt := ti_add rfl m1 (by omega) (by omega)
    refine hk4 (q, x1 + (x3 * v2), x2 + 1) ⟨rfl, by show 0 ≤ Int32.toInt (x2 + 1); omega, by show Int32.toInt (x2 + 1) ≤ 6; omega, by show 0 ≤ Int32.toInt (x1 + (x3 * v2)); omega, ?_⟩ (by show (6 - Int32.toInt (x2 + 1)).toNat < (6 - Int32.toInt x2).toNat; omega)
    show Int32.toInt (x1 + (x3 * v2)) < facI (Int32.toInt (x2 + 1))
    rw [m2, t1]; exact h1
  · have t4 : Int32.toInt (x4 + 1) = x4.toInt + 1 := ti_add rfl (by decide) (by omega) (by omega)
    refine dOk_G (dg_ok (by omega) (by omega)) (dOk_L (fun v4 e4 => dOk_G (dg_ok (by omega) (by omega)) (dOk_L (fun v6 e6 => ?_))))
    refine dOk_le rfl rfl (fun c4 => ?_) (fun c4 => ?_)
    all_goals
      refine dOk_V (ok_X9_bit _) (fun r1 hr => ?_)
      replace hr : Int32.toInt r1 = 0 ∨ Int32.toInt r1 = 1 := hr
      have t3 : Int32.toInt (x3 + r1) = x3.toInt + r1.toInt := ti_add rfl rfl (by omega) (by omega)
      refine hk15 (q, x1, x2, x3 + r1, x4 + 1) ⟨rfl, rfl, rfl, ?_, ?_, ?_⟩ ?_
      · show 0 ≤ Int32.toInt (x3 + r1); omega
      · show Int32.toInt (x3 + r1) ≤ Int32.toInt (x4 + 1); omega
      · show Int32.toInt (x4 + 1) ≤ x2.toInt; omega
      · show (x2.toInt - Int32.toInt (x4 + 1)).toNat < (x2.toInt - Int32.toInt x4).toNat; omega
