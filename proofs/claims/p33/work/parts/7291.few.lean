set_option maxHeartbeats 200000 in
theorem ok2_X10_few (q : dS) (p1 p2 : Int32) : dOk (zX10_few q p1 p2) (fun (o : Int64 × dS) => o.1 = fwV (q.1 2 26) p1 p2) := by
  have bad : ¬ (1 ≤ Int32.toInt p1 ∧ Int32.toInt p1 ≤ 20 ∧ 0 ≤ Int32.toInt p2 ∧ Int32.toInt p2 ≤ 99) → dOk (zX10_few_20 q) (fun (o : Int64 × dS) => o.1 = fwV (q.1 2 26) p1 p2) := by
    intro h
    unfold zX10_few_20 fwV
    rw [if_neg h]
    exact dOk_some rfl
  have d1 : Int32.toInt 1 = 1 := by decide
  have d20 : Int32.toInt 20 = 20 := by decide
  have d0 : Int32.toInt 0 = 0 := by decide
  have d99 : Int32.toInt 99 = 99 := by decide
  unfold zX10_few
  refine dOk_V (ok_lies p1 1 20) (fun r hr => ?_)
  replace hr : (Int32.toInt r = 1 ∧ Int32.toInt 1 ≤ Int32.toInt p1 ∧ Int32.toInt p1 ≤ Int32.toInt 20) ∨ (Int32.toInt r = 0 ∧ (Int32.toInt p1 < Int32.toInt 1 ∨ Int32.toInt 20 < Int32.toInt p1)) := hr
  rw [d1, d20] at hr
  refine dOk_eq rfl d0 (fun _ c => bad (by omega)) (fun _ c => ?_)
  refine dOk_V (ok_lies p2 0 99) (fun r3 hr3 => ?_)
  replace hr3 : (Int32.toInt r3 = 1 ∧ Int32.toInt 0 ≤ Int32.toInt p2 ∧ Int32.toInt p2 ≤ Int32.toInt 99) ∨ (Int32.toInt r3 = 0 ∧ (Int32.toInt p2 < Int32.toInt 0 ∨ Int32.toInt 99 < Int32.toInt p2)) := hr3
  rw [d0, d99] at hr3
  refine dOk_eq rfl d0 (fun _ c => bad (by omega)) (fun _ c' => ?_)
  have c1 : 1 ≤ Int32.toInt p1 := by omega
  have c2 : Int32.toInt p1 ≤ 20 := by omega
  have c3 : 0 ≤ Int32.toInt p2 := by omega
  have c4 : Int32.toInt p2 ≤ 99 := by omega
  have hV : fwV (q.1 2 26) p1 p2 = fwZ (fwI (q.1 2 26) (Int32.toNatClampNeg p2)) (Int32.toNatClampNeg p1) := by unfold fwV; rw [if_pos ⟨c1, c2, c3, c4⟩]
  rw [hV]
  clear bad hV c c' hr hr3
  have n1 := cl_eq (i := p1) (by omega)
  have n2 := cl_eq c3
  have h57 : ∀ q2 : dS, q2.1 = q.1 → (∀ i : Nat, i < 21 → q2.2 26 i = fwI (q.1 2 26) 0 i) → dOk (zX10_few_57 dF q2 p1 p2 0) (fun (o : Int64 × dS) => o.1 = fwZ (fwI (q.1 2 26) (Int32.toNatClampNeg p2)) (Int32.toNatClampNeg p1)) := by
    intro q2 s2 f2
    unfold zX10_few_57
    refine dFix_ok (fun (a : dS × Int32 × Int32 × Int32) => a.1.1 = q.1 ∧ a.2.1 = p1 ∧ a.2.2.1 = p2 ∧ 0 ≤ a.2.2.2.toInt ∧ a.2.2.2.toInt ≤ Int32.toInt p2 ∧ ∀ i : Nat, (i : Int) < Int32.toInt p1 → a.1.2 26 i = fwI (q.1 2 26) (Int32.toNatClampNeg a.2.2.2) i) (fun (a : dS × Int32 × Int32 × Int32) => (Int32.toInt p2 - a.2.2.2.toInt).toNat) ?_ _ ⟨s2, rfl, rfl, by show 0 ≤ Int32.toInt 0; decide, by show Int32.toInt 0 ≤ Int32.toInt p2; rw [d0]; exact c3, fun i hi => by show _ = fwI _ (Int32.toNatClampNeg 0) i; rw [show Int32.toNatClampNeg 0 = 0 by decide]; exact f2 i (by omega)⟩ _ (dF_gt (by show (Int32.toInt p2 - Int32.toInt 0).toNat < 1000000000000; rw [d0]; omega))
    clear s2 f2
    intro a ha k57 hk57
    obtain ⟨qa, x1, x2, x3⟩ := a
    obtain ⟨a0, a1, a2, a3, a4, a5⟩ := ha
    replace a0 : qa.1 = q.1 := a0
    replace a1 : p1 = x1 := Eq.symm a1
    replace a2 : p2 = x2 := Eq.symm a2
    replace a3 : 0 ≤ x3.toInt := a3
    replace a4 : x3.toInt ≤ Int32.toInt p2 := a4
    replace a5 : ∀ i : Nat, (i : Int) < Int32.toInt p1 → qa.2 26 i = fwI (q.1 2 26) (Int32.toNatClampNeg x3) i := a5
    subst a1 a2
    show dOk (zX10_few_57b (fun q x1 x2 x3 => k57 (q, x1, x2, x3)) qa p1 p2 x3) _
    unfold zX10_few_57b
    have n3 := cl_eq a3
    refine dOk_le rfl rfl (fun c => ?_) (fun c => ?_)
    · have e3 : Int32.toNatClampNeg x3 = Int32.toNatClampNeg p2 := by omega
      rw [e3] at a5
      unfold zX10_few_151
      refine dFix_ok (fun (a : dS × Int32 × Int64 × Int32) => a.1 = qa ∧ a.2.1 = p1 ∧ 0 ≤ a.2.2.2.toInt ∧ a.2.2.2.toInt ≤ Int32.toInt p1 ∧ a.2.2.1 = fwZ (fwI (q.1 2 26) (Int32.toNatClampNeg p2)) (Int32.toNatClampNeg a.2.2.2)) (fun (a : dS × Int32 × Int64 × Int32) => (20 - a.2.2.2.toInt).toNat) ?_ _ ⟨rfl, rfl, by show 0 ≤ Int32.toInt 0; decide, by show Int32.toInt 0 ≤ Int32.toInt p1; rw [d0]; omega, by show (0 : Int64) = fwZ _ (Int32.toNatClampNeg 0); rw [cl_00, fwZ_0]⟩ _ (dF_gt (by show (20 - Int32.toInt 0).toNat < 1000000000000; rw [show Int32.toInt 0 = 0 by decide]; omega))
      intro a ha k151 hk151
      obtain ⟨qb, y1, sm, x5⟩ := a
      obtain ⟨b0, b1, b2, b3, b4⟩ := ha
      replace b0 : qa = qb := Eq.symm b0
      replace b1 : p1 = y1 := Eq.symm b1
      replace b2 : 0 ≤ x5.toInt := b2
      replace b3 : x5.toInt ≤ Int32.toInt p1 := b3
      replace b4 : sm = fwZ (fwI (q.1 2 26) (Int32.toNatClampNeg p2)) (Int32.toNatClampNeg x5) := b4
      subst b0 b1
      show dOk (zX10_few_151b (fun q x1 x3 x5 => k151 (q, x1, x3, x5)) qa p1 sm x5) _
      unfold zX10_few_151b
      have n5 := cl_eq b2
      refine dOk_le rfl rfl (fun c5 => dOk_some ?_) (fun c5 => ?_)
      · show sm = _
        rw [b4, show Int32.toNatClampNeg x5 = Int32.toNatClampNeg p1 by omega]
      · have t5 : Int32.toInt (x5 + 1) = x5.toInt + 1 := ti_add rfl (by decide) (by omega) (by omega)
        have n6 := cl_eq (i := x5 + 1) (by omega)
        have n7 : Int32.toNatClampNeg (x5 + 1) = Int32.toNatClampNeg x5 + 1 := by omega
        refine dOk_G (dg_ok b2 (by omega)) (dOk_L (fun v2 e2 => ?_))
        refine hk151 (qa, p1, sm + v2, x5 + 1) ⟨rfl, rfl, by show 0 ≤ Int32.toInt (x5 + 1); omega, by show Int32.toInt (x5 + 1) ≤ Int32.toInt p1; omega, ?_⟩ (by show (20 - Int32.toInt (x5 + 1)).toNat < (20 - Int32.toInt x5).toNat; omega)
        show sm + v2 = fwZ (fwI (q.1 2 26) (Int32.toNatClampNeg p2)) (Int32.toNatClampNeg (x5 + 1))
        rw [n7, fwZ_s, e2, a5 _ (by omega), b4]
    · have tm : Int32.toInt (p1 - 1) = Int32.toInt p1 - 1 := ti_sub rfl (by decide) (by omega) (by omega)
      obtain ⟨xm, hxm⟩ : ∃ y : Int32, p1 - 1 = y := ⟨_, rfl⟩
      rw [hxm] at tm ⊢
      clear hxm
      obtain ⟨f, hf⟩ : ∃ f : Nat → Int64, fwI (q.1 2 26) (Int32.toNatClampNeg x3) = f := ⟨_, rfl⟩
      rw [hf] at a5
      unfold zX10_few_67
      refine dFix_ok (fun (a : dS × Int32 × Int32 × Int32 × Int32) => a.1.1 = q.1 ∧ a.2.1 = p1 ∧ a.2.2.1 = p2 ∧ a.2.2.2.1 = x3 ∧ -1 ≤ a.2.2.2.2.toInt ∧ a.2.2.2.2.toInt ≤ Int32.toInt p1 - 1 ∧ ∀ i : Nat, (i : Int) < Int32.toInt p1 → a.1.2 26 i = if (i : Int) ≤ a.2.2.2.2.toInt then f i else if (i : Int) = a.2.2.2.2.toInt + 1 then fwA (q.1 2 26) (f i) else fwS (q.1 2 26) f i) (fun (a : dS × Int32 × Int32 × Int32 × Int32) => (a.2.2.2.2.toInt + 1).toNat) ?_ _ ⟨a0, rfl, rfl, rfl, by show -1 ≤ Int32.toInt xm; omega, by show Int32.toInt xm ≤ Int32.toInt p1 - 1; omega, fun i hi => by show qa.2 26 i = if (i : Int) ≤ Int32.toInt xm then f i else _; rw [if_pos (by omega)]; exact a5 i hi⟩ _ (dF_gt (by show (Int32.toInt xm + 1).toNat < 1000000000000; omega))
      clear a0 a5
      intro a ha k67 hk67
      obtain ⟨qb, y1, y2, y3, x4⟩ := a
      obtain ⟨b0, b1, b2, b3, b4, b5, b6⟩ := ha
      replace b0 : qb.1 = q.1 := b0
      replace b1 : p1 = y1 := Eq.symm b1
      replace b2 : p2 = y2 := Eq.symm b2
      replace b3 : x3 = y3 := Eq.symm b3
      replace b4 : -1 ≤ x4.toInt := b4
      replace b5 : x4.toInt ≤ Int32.toInt p1 - 1 := b5
      replace b6 : ∀ i : Nat, (i : Int) < Int32.toInt p1 → qb.2 26 i = if (i : Int) ≤ x4.toInt then f i else if (i : Int) = x4.toInt + 1 then fwA (q.1 2 26) (f i) else fwS (q.1 2 26) f i := b6
      subst b1 b2 b3
      have t3 : Int32.toInt (x3 + 1) = x3.toInt + 1 := ti_add rfl (by decide) (by omega) (by omega)
      have n4 := cl_eq (i := x3 + 1) (by omega)
      have n8 : Int32.toNatClampNeg (x3 + 1) = Int32.toNatClampNeg x3 + 1 := by omega
      show dOk (zX10_few_67b (fun q x1 x2 x3 => k57 (q, x1, x2, x3)) (fun q x1 x2 x3 x4 => k67 (q, x1, x2, x3, x4)) qb p1 p2 x3 x4) _
      unfold zX10_few_67b
      refine dOk_lt rfl d0 (fun c5 => ?_) (fun c5 => ?_)
      · refine hk57 (qb, p1, p2, x3 + 1) ⟨b0, rfl, rfl, by show 0 ≤ Int32.toInt (x3 + 1); omega, by show Int32.toInt (x3 + 1) ≤ Int32.toInt p2; omega, fun i hi => ?_⟩ (by show (Int32.toInt p2 - Int32.toInt (x3 + 1)).toNat < (Int32.toInt p2 - Int32.toInt x3).toNat; omega)
        show qb.2 26 i = fwI (q.1 2 26) (Int32.toNatClampNeg (x3 + 1)) i
        rw [n8, b6 i hi, if_neg (by omega)]
        rw [fwI_s, hf]
        by_cases ci : i = 0
        · rw [if_pos (by omega), fwS_0 _ _ ci, ci]
        · rw [if_neg (by omega)]
      · have nx := cl_eq c5
        have e4 : Int32.toInt (x4 + (-1)) = x4.toInt + (-1) := ti_add rfl (by decide) (by omega) (by omega)
        obtain ⟨xd, hxd⟩ : ∃ y : Int32, x4 + (-1) = y := ⟨_, rfl⟩
        rw [hxd] at e4
        have t4 : Int32.toInt (x4 + 1) = x4.toInt + 1 := ti_add rfl (by decide) (by omega) (by omega)
        have n9 := cl_eq (i := x4 + 1) (by omega)
        have n10 : Int32.toNatClampNeg (x4 + 1) = Int32.toNatClampNeg x4 + 1 := by omega
        have sl : qb.1 2 26 = q.1 2 26 := by rw [b0]
        refine dOk_G (dg_ok (by omega) (by omega)) (dOk_L (fun v2 e2 => dOk_G (dg_ok c5 (by omega)) (dOk_L (fun v4 e4v => dOk_L (fun v5 e5 => dOk_G (dg_ok (by omega) (by omega)) (dOk_L (fun q7 e7 => dOk_G (dg_ok c5 (by omega)) (dOk_L (fun v9 e9 => dOk_L (fun v10 e10 => dOk_G (dg_ok c5 (by omega)) (dOk_L (fun q12 e12 => ?_))))))))))))
        rw [hxd]
        have g4 : v4 = f (Int32.toNatClampNeg x4) := by rw [e4v, b6 _ (by omega), if_pos (by omega)]
        have s7 : q7.1 = qb.1 := by rw [e7]; rfl
        have g9 : v9 = f (Int32.toNatClampNeg x4) := by rw [e9, e7, dul_n (by omega), ← e4v]; exact g4
        have g10 : v10 = fwA (q.1 2 26) (f (Int32.toNatClampNeg x4)) := by rw [e10, s7, sl, g9, fwA_e]
        refine hk67 (q12, p1, p2, x3, xd) ⟨by show q12.1 = q.1; rw [e12]; exact s7.trans b0, rfl, rfl, rfl, by show -1 ≤ Int32.toInt xd; omega, by show Int32.toInt xd ≤ Int32.toInt p1 - 1; omega, fun i hi => ?_⟩ (by show (Int32.toInt xd + 1).toNat < (Int32.toInt x4 + 1).toNat; omega)
        show q12.2 26 i = if (i : Int) ≤ Int32.toInt xd then f i else if (i : Int) = Int32.toInt xd + 1 then fwA (q.1 2 26) (f i) else fwS (q.1 2 26) f i
        rw [e12]
        by_cases ci : i = Int32.toNatClampNeg x4
        · subst ci
          rw [dul_e, g10, if_neg (by omega), if_pos (by omega)]
        · rw [dul_n ci, e7, n10]
          by_cases cj : i = Int32.toNatClampNeg x4 + 1
          · subst cj
            have g2 : v2 = fwA (q.1 2 26) (f (Int32.toNatClampNeg x4 + 1)) := by rw [e2, n10, b6 _ hi, if_neg (by omega), if_pos (by omega)]
            rw [dul_e, if_neg (by omega), if_neg (by omega), e5, sl, g2, g4, fwB_e, fwS_s _ _ (by omega), Nat.add_sub_cancel]
          · rw [dul_n cj, b6 i hi]
            by_cases cl : (i : Int) ≤ x4.toInt
            · rw [if_pos cl, if_pos (by omega)]
            · rw [if_neg cl, if_neg (by omega), if_neg (by omega), if_neg (by omega)]
  unfold zX10_few_26
  refine dFix_ok (fun (a : dS × Int32 × Int32 × Int32) => a.1.1 = q.1 ∧ a.2.1 = p1 ∧ a.2.2.1 = p2 ∧ 0 ≤ a.2.2.2.toInt ∧ a.2.2.2.toInt ≤ 21 ∧ ∀ i : Nat, (i : Int) < a.2.2.2.toInt → a.1.2 26 i = fwI (q.1 2 26) 0 i) (fun (a : dS × Int32 × Int32 × Int32) => (21 - a.2.2.2.toInt).toNat) ?_ _ ⟨rfl, rfl, rfl, by show 0 ≤ Int32.toInt 0; decide, by show Int32.toInt 0 ≤ 21; decide, fun i hi => absurd hi (by show ¬ (i : Int) < Int32.toInt 0; rw [d0]; omega)⟩ _ (dF_gt (by show (21 - Int32.toInt 0).toNat < 1000000000000; rw [show Int32.toInt 0 = 0 by decide]; omega))
  intro a ha k26 hk26
  obtain ⟨qa, x1, x2, x3⟩ := a
  obtain ⟨a0, a1, a2, a3, a4, a5⟩ := ha
  replace a0 : qa.1 = q.1 := a0
  replace a1 : p1 = x1 := Eq.symm a1
  replace a2 : p2 = x2 := Eq.symm a2
  replace a3 : 0 ≤ x3.toInt := a3
  replace a4 : x3.toInt ≤ 21 := a4
  replace a5 : ∀ i : Nat, (i : Int) < x3.toInt → qa.2 26 i = fwI (q.1 2 26) 0 i := a5
  subst a1 a2
  have nx := cl_eq a3
  have h48 : ∀ y : Int64, x3.toInt ≤ 20 → y = fwI (q.1 2 26) 0 (Int32.toNatClampNeg x3) → dOk (zX10_few_48 (fun q x1 x2 x3 => k26 (q, x1, x2, x3)) qa p1 p2 x3 y x3) (fun (o : Int64 × dS) => o.1 = fwZ (fwI (q.1 2 26) (Int32.toNatClampNeg p2)) (Int32.toNatClampNeg p1)) := by
    intro y hy ey
    have t3 : Int32.toInt (x3 + 1) = x3.toInt + 1 := ti_add rfl (by decide) (by omega) (by omega)
    unfold zX10_few_48
    refine dOk_G (dg_ok a3 (by omega)) (dOk_L (fun q2 e2 => ?_))
    refine hk26 (q2, p1, p2, x3 + 1) ⟨by show q2.1 = q.1; rw [e2]; exact a0, rfl, rfl, by show 0 ≤ Int32.toInt (x3 + 1); omega, by show Int32.toInt (x3 + 1) ≤ 21; omega, fun i hi => ?_⟩ (by show (21 - Int32.toInt (x3 + 1)).toNat < (21 - Int32.toInt x3).toNat; omega)
    replace hi : (i : Int) < Int32.toInt (x3 + 1) := hi
    show q2.2 26 i = _
    rw [e2]
    by_cases ci : i = Int32.toNatClampNeg x3
    · subst ci; rw [dul_e, ey]
    · rw [dul_n ci]; exact a5 i (by omega)
  show dOk (zX10_few_26b (fun q x1 x2 x3 => k26 (q, x1, x2, x3)) qa p1 p2 x3) _
  unfold zX10_few_26b
  refine dOk_lt d20 rfl (fun c => h57 qa a0 (fun i hi => a5 i (by omega))) (fun c => ?_)
  refine dOk_eq rfl d0 (fun _ cz => h48 _ c ?_) (fun _ cz => h48 _ c ?_)
  · show _ = (if Int32.toNatClampNeg x3 = 0 then (1000000000000 : Int64) else 0)
    rw [if_pos (by omega)]
  · show _ = (if Int32.toNatClampNeg x3 = 0 then (1000000000000 : Int64) else 0)
    rw [if_neg (by omega)]
