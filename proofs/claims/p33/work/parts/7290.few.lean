set_option maxHeartbeats 200000 in
theorem ok2_X9_few (q : dK) (p1 p2 : Int32) : dOk (zX9_few_s0 q p1 p2) (fun (o : Int64 × dK) => o.1 = fwV (q.1 1 1) p1 p2) := by
  have bad : ¬ (1 ≤ Int32.toInt p1 ∧ Int32.toInt p1 ≤ 20 ∧ 0 ≤ Int32.toInt p2 ∧ Int32.toInt p2 ≤ 99) → dOk (zX9_few_s0_21 q) (fun (o : Int64 × dK) => o.1 = fwV (q.1 1 1) p1 p2) := by
    intro h
    unfold zX9_few_s0_21 fwV
    rw [if_neg h]
    exact dOk_some rfl
  unfold zX9_few_s0
  refine dOk_lt rfl (by decide : Int32.toInt 1 = 1) (fun c => bad (by omega)) (fun c1 => ?_)
  refine dOk_lt (by decide : Int32.toInt 20 = 20) rfl (fun c => bad (by omega)) (fun c2 => ?_)
  refine dOk_lt rfl (by decide : Int32.toInt 0 = 0) (fun c => bad (by omega)) (fun c3 => ?_)
  refine dOk_le rfl (by decide : Int32.toInt 99 = 99) (fun c4 => ?_) (fun c => bad (by omega))
  have hV : fwV (q.1 1 1) p1 p2 = fwZ (fwI (q.1 1 1) (Int32.toNatClampNeg p2)) (Int32.toNatClampNeg p1) := by unfold fwV; rw [if_pos ⟨c1, c2, c3, c4⟩]
  rw [hV]
  clear bad hV
  have n1 := cl_eq (i := p1) (by omega)
  have n2 := cl_eq c3
  refine dOk_L (fun q1 e1 => dOk_L (fun q2 e2 => ?_))
  have s2 : q2.1 = q.1 := by rw [e2, e1]; rfl
  have f2 : ∀ i : Nat, i < 20 → q2.2.1 47 i = fwI (q.1 1 1) 0 i := by
    intro i hi
    show _ = (if i = 0 then (1000000000000 : Int64) else 0)
    rw [e2]
    by_cases c : i = 0
    · subst c; rw [cul_e, if_pos rfl]
    · rw [cul_n c, e1, if_neg c]
      show (if 47 = 47 then kz_flL (q.2.1 47) 20 0 else q.2.1 47) i = 0
      rw [if_pos rfl]
      exact if_pos hi
  clear e1 e2
  unfold zX9_few_s0_44
  refine dFix_ok (fun (a : dK × Int32 × Int32 × Int32) => a.1.1 = q.1 ∧ a.2.1 = p1 ∧ a.2.2.1 = p2 ∧ 0 ≤ a.2.2.2.toInt ∧ a.2.2.2.toInt ≤ Int32.toInt p2 ∧ ∀ i : Nat, (i : Int) < Int32.toInt p1 → a.1.2.1 47 i = fwI (q.1 1 1) (Int32.toNatClampNeg a.2.2.2) i) (fun (a : dK × Int32 × Int32 × Int32) => (Int32.toInt p2 - a.2.2.2.toInt).toNat) ?_ _ ⟨s2, rfl, rfl, by show 0 ≤ Int32.toInt 0; decide, by show Int32.toInt 0 ≤ Int32.toInt p2; rw [show Int32.toInt 0 = 0 by decide]; exact c3, fun i hi => by show _ = fwI _ (Int32.toNatClampNeg 0) i; rw [show Int32.toNatClampNeg 0 = 0 by decide]; exact f2 i (by omega)⟩ _ (dF_gt (by show (Int32.toInt p2 - Int32.toInt 0).toNat < 1000000000000; rw [show Int32.toInt 0 = 0 by decide]; omega))
  clear s2 f2
  intro a ha k44 hk44
  obtain ⟨qa, x1, x2, x3⟩ := a
  obtain ⟨a0, a1, a2, a3, a4, a5⟩ := ha
  replace a0 : qa.1 = q.1 := a0
  replace a1 : p1 = x1 := Eq.symm a1
  replace a2 : p2 = x2 := Eq.symm a2
  replace a3 : 0 ≤ x3.toInt := a3
  replace a4 : x3.toInt ≤ Int32.toInt p2 := a4
  replace a5 : ∀ i : Nat, (i : Int) < Int32.toInt p1 → qa.2.1 47 i = fwI (q.1 1 1) (Int32.toNatClampNeg x3) i := a5
  subst a1 a2
  show dOk (zX9_few_s0_44b (fun q x1 x2 x3 => k44 (q, x1, x2, x3)) qa p1 p2 x3) _
  unfold zX9_few_s0_44b
  have n3 := cl_eq a3
  refine dOk_le rfl rfl (fun c => ?_) (fun c => ?_)
  · have e3 : Int32.toNatClampNeg x3 = Int32.toNatClampNeg p2 := by omega
    rw [e3] at a5
    unfold zX9_few_s0_146
    refine dFix_ok (fun (a : dK × Int32 × Int64 × Int32) => a.1 = qa ∧ a.2.1 = p1 ∧ 0 ≤ a.2.2.2.toInt ∧ a.2.2.2.toInt ≤ Int32.toInt p1 ∧ a.2.2.1 = fwZ (fwI (q.1 1 1) (Int32.toNatClampNeg p2)) (Int32.toNatClampNeg a.2.2.2)) (fun (a : dK × Int32 × Int64 × Int32) => (20 - a.2.2.2.toInt).toNat) ?_ _ ⟨rfl, rfl, by show 0 ≤ Int32.toInt 0; decide, by show Int32.toInt 0 ≤ Int32.toInt p1; rw [show Int32.toInt 0 = 0 by decide]; omega, by show (0 : Int64) = fwZ _ (Int32.toNatClampNeg 0); rw [cl_00, fwZ_0]⟩ _ (dF_gt (by show (20 - Int32.toInt 0).toNat < 1000000000000; rw [show Int32.toInt 0 = 0 by decide]; omega))
    intro a ha k146 hk146
    obtain ⟨qb, y1, sm, x5⟩ := a
    obtain ⟨b0, b1, b2, b3, b4⟩ := ha
    replace b0 : qa = qb := Eq.symm b0
    replace b1 : p1 = y1 := Eq.symm b1
    replace b2 : 0 ≤ x5.toInt := b2
    replace b3 : x5.toInt ≤ Int32.toInt p1 := b3
    replace b4 : sm = fwZ (fwI (q.1 1 1) (Int32.toNatClampNeg p2)) (Int32.toNatClampNeg x5) := b4
    subst b0 b1
    show dOk (zX9_few_s0_146b (fun q x1 x3 x5 => k146 (q, x1, x3, x5)) qa p1 sm x5) _
    unfold zX9_few_s0_146b
    have n5 := cl_eq b2
    refine dOk_le rfl rfl (fun c5 => dOk_some ?_) (fun c5 => ?_)
    · show sm = _
      rw [b4, show Int32.toNatClampNeg x5 = Int32.toNatClampNeg p1 by omega]
    · have t5 : Int32.toInt (x5 + 1) = x5.toInt + 1 := ti_add rfl (by decide) (by omega) (by omega)
      have n6 := cl_eq (i := x5 + 1) (by omega)
      have n7 : Int32.toNatClampNeg (x5 + 1) = Int32.toNatClampNeg x5 + 1 := by omega
      refine dOk_G (dg_ok b2 (by omega)) (dOk_L (fun v2 e2 => ?_))
      refine hk146 (qa, p1, sm + v2, x5 + 1) ⟨rfl, rfl, by show 0 ≤ Int32.toInt (x5 + 1); omega, by show Int32.toInt (x5 + 1) ≤ Int32.toInt p1; omega, ?_⟩ (by show (20 - Int32.toInt (x5 + 1)).toNat < (20 - Int32.toInt x5).toNat; omega)
      show sm + v2 = fwZ (fwI (q.1 1 1) (Int32.toNatClampNeg p2)) (Int32.toNatClampNeg (x5 + 1))
      rw [n7, fwZ_s, e2, a5 _ (by omega), b4]
  · have tm : Int32.toInt (p1 - 1) = Int32.toInt p1 - 1 := ti_sub rfl (by decide) (by omega) (by omega)
    obtain ⟨xm, hxm⟩ : ∃ y : Int32, p1 - 1 = y := ⟨_, rfl⟩
    rw [hxm] at tm ⊢
    clear hxm
    obtain ⟨f, hf⟩ : ∃ f : Nat → Int64, fwI (q.1 1 1) (Int32.toNatClampNeg x3) = f := ⟨_, rfl⟩
    rw [hf] at a5
    unfold zX9_few_s0_54
    refine dFix_ok (fun (a : dK × Int32 × Int32 × Int32 × Int32) => a.1.1 = q.1 ∧ a.2.1 = p1 ∧ a.2.2.1 = p2 ∧ a.2.2.2.1 = x3 ∧ -1 ≤ a.2.2.2.2.toInt ∧ a.2.2.2.2.toInt ≤ Int32.toInt p1 - 1 ∧ ∀ i : Nat, (i : Int) < Int32.toInt p1 → a.1.2.1 47 i = if (i : Int) ≤ a.2.2.2.2.toInt then f i else fwS (q.1 1 1) f i) (fun (a : dK × Int32 × Int32 × Int32 × Int32) => (a.2.2.2.2.toInt + 1).toNat) ?_ _ ⟨a0, rfl, rfl, rfl, by show -1 ≤ Int32.toInt xm; omega, by show Int32.toInt xm ≤ Int32.toInt p1 - 1; omega, fun i hi => by show qa.2.1 47 i = if (i : Int) ≤ Int32.toInt xm then f i else fwS (q.1 1 1) f i; rw [if_pos (by omega)]; exact a5 i hi⟩ _ (dF_gt (by show (Int32.toInt xm + 1).toNat < 1000000000000; omega))
    clear a0 a5
    intro a ha k54 hk54
    obtain ⟨qb, y1, y2, y3, x4⟩ := a
    obtain ⟨b0, b1, b2, b3, b4, b5, b6⟩ := ha
    replace b0 : qb.1 = q.1 := b0
    replace b1 : p1 = y1 := Eq.symm b1
    replace b2 : p2 = y2 := Eq.symm b2
    replace b3 : x3 = y3 := Eq.symm b3
    replace b4 : -1 ≤ x4.toInt := b4
    replace b5 : x4.toInt ≤ Int32.toInt p1 - 1 := b5
    replace b6 : ∀ i : Nat, (i : Int) < Int32.toInt p1 → qb.2.1 47 i = if (i : Int) ≤ x4.toInt then f i else fwS (q.1 1 1) f i := b6
    subst b1 b2 b3
    have t3 : Int32.toInt (x3 + 1) = x3.toInt + 1 := ti_add rfl (by decide) (by omega) (by omega)
    have n4 := cl_eq (i := x3 + 1) (by omega)
    have n8 : Int32.toNatClampNeg (x3 + 1) = Int32.toNatClampNeg x3 + 1 := by omega
    show dOk (zX9_few_s0_54b (fun q x1 x2 x3 => k44 (q, x1, x2, x3)) (fun q x1 x2 x3 x4 => k54 (q, x1, x2, x3, x4)) qb p1 p2 x3 x4) _
    unfold zX9_few_s0_54b
    refine dOk_lt rfl (by decide : Int32.toInt 0 = 0) (fun c5 => ?_) (fun c5 => ?_)
    · refine hk44 (qb, p1, p2, x3 + 1) ⟨b0, rfl, rfl, by show 0 ≤ Int32.toInt (x3 + 1); omega, by show Int32.toInt (x3 + 1) ≤ Int32.toInt p2; omega, fun i hi => ?_⟩ (by show (Int32.toInt p2 - Int32.toInt (x3 + 1)).toNat < (Int32.toInt p2 - Int32.toInt x3).toNat; omega)
      show qb.2.1 47 i = fwI (q.1 1 1) (Int32.toNatClampNeg (x3 + 1)) i
      rw [n8, b6 i hi, if_neg (by omega)]
      rw [fwI_s, hf]
    · have nx := cl_eq c5
      have e4 : Int32.toInt (x4 + (-1)) = x4.toInt + (-1) := ti_add rfl (by decide) (by omega) (by omega)
      obtain ⟨xd, hxd⟩ : ∃ y : Int32, x4 + (-1) = y := ⟨_, rfl⟩
      rw [hxd] at e4
      have h115 : ∀ (v3 y0 : Int64), v3 + y0 = fwS (q.1 1 1) f (Int32.toNatClampNeg x4) → dOk (zX9_few_s0_115 (fun q x1 x2 x3 => k44 (q, x1, x2, x3)) (fun q x1 x2 x3 x4 => k54 (q, x1, x2, x3, x4)) qb p1 p2 x3 x4 v3 y0) (fun (o : Int64 × dK) => o.1 = fwZ (fwI (q.1 1 1) (Int32.toNatClampNeg p2)) (Int32.toNatClampNeg p1)) := by
        intro v3 y0 hv
        unfold zX9_few_s0_115
        rw [hxd]
        refine dOk_G (dg_ok c5 (by omega)) (dOk_L (fun q2 e2 => ?_))
        refine hk54 (q2, p1, p2, x3, xd) ⟨by show q2.1 = q.1; rw [e2]; exact b0, rfl, rfl, rfl, by show -1 ≤ Int32.toInt xd; omega, by show Int32.toInt xd ≤ Int32.toInt p1 - 1; omega, fun i hi => ?_⟩ (by show (Int32.toInt xd + 1).toNat < (Int32.toInt x4 + 1).toNat; omega)
        show q2.2.1 47 i = if (i : Int) ≤ Int32.toInt xd then f i else fwS (q.1 1 1) f i
        rw [e2]
        by_cases ci : i = Int32.toNatClampNeg x4
        · subst ci
          rw [cul_e, hv, if_neg (by omega)]
        · rw [cul_n ci, b6 i hi]
          by_cases cl : (i : Int) ≤ x4.toInt
          · rw [if_pos cl, if_pos (by omega)]
          · rw [if_neg cl, if_neg (by omega)]
      have sl : qb.1 1 1 = q.1 1 1 := by rw [b0]
      refine dOk_G (dg_ok c5 (by omega)) (dOk_L (fun v2 e2 => dOk_L (fun v3 e3 => ?_)))
      have g2 : v2 = f (Int32.toNatClampNeg x4) := by rw [e2, b6 _ (by omega), if_pos (by omega)]
      have g3 : v3 = fwA (q.1 1 1) (f (Int32.toNatClampNeg x4)) := by rw [e3, sl, g2, fwA_e]
      refine dOk_eq rfl (by decide : Int32.toInt 0 = 0) (fun _ c6 => h115 v3 0 ?_) (fun _ c6 => ?_)
      · have z : Int32.toNatClampNeg x4 = 0 := by omega
        rw [g3, fwS_0 _ _ z, z, Int64.add_zero]
      · have t4 : Int32.toInt (x4 - 1) = x4.toInt - 1 := ti_sub rfl (by decide) (by omega) (by omega)
        have n9 := cl_eq (i := x4 - 1) (by omega)
        refine dOk_G (dg_ok (by omega) (by omega)) (dOk_L (fun v5 e5 => h115 v3 _ ?_))
        have g5 : v5 = f (Int32.toNatClampNeg x4 - 1) := by rw [e5, b6 _ (by omega), if_pos (by omega), show Int32.toNatClampNeg (x4 - 1) = Int32.toNatClampNeg x4 - 1 by omega]
        rw [g3, g5, sl, fwB_e, fwS_s _ _ (by omega)]
