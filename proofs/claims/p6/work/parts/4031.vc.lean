def usB (u : Nat) : Nat → Nat
  | 0 => 0
  | r + 1 => usB u r + (if u.testBit r then 1 else 0)
theorem isIn_bit : ∀ u : Nat, u < 64 → ∀ r : Nat, r < 7 → decide (((nI u >>> (nI r &&& 31)) &&& 1 : Int32) = 1) = u.testBit r := by decide +kernel
theorem or_bit : ∀ u : Nat, u < 64 → ∀ r : Nat, r < 6 → u.testBit r = false → ((nI u ||| (1 <<< (nI r &&& 31)) : Int32) = nI (u ||| 2 ^ r) ∧ u ||| 2 ^ r < 64 ∧ usB (u ||| 2 ^ r) 6 = usB u 6 + 1) := by decide +kernel
theorem isIn_eq {u r : Nat} (hu : u < 64) (hr : r < 7) : dOk (zX10_isIn (nI u) (nI r)) (fun o => (o = 1 ∧ u.testBit r = true) ∨ (o = 0 ∧ u.testBit r = false)) := by
  have h := isIn_bit u hu r hr
  unfold zX10_isIn zX10_isIn_14
  by_cases c : ((nI u >>> (nI r &&& 31)) &&& 1 : Int32) = 1
  · rw [if_pos c]
    rw [decide_eq_true c] at h
    exact dOk_G (by decide) (dOk_some (Or.inl ⟨rfl, h.symm⟩))
  · rw [if_neg c]
    rw [decide_eq_false c] at h
    exact dOk_G (by decide) (dOk_some (Or.inr ⟨rfl, h.symm⟩))
theorem skip_le {n a x r7 : Int} (hn : n ≤ 6) (ha0 : 0 ≤ a) (ha : a < n) (hx : 0 ≤ x) (hx2 : x < facI (n - a)) (hr : ((n - 1 - a ≤ 1 ∧ r7 = 1) ∨ (n - 1 - a = 2 ∧ r7 = 2) ∨ (n - 1 - a = 3 ∧ r7 = 6) ∨ (n - 1 - a = 4 ∧ r7 = 24) ∨ (n - 1 - a = 5 ∧ r7 = 120) ∨ (n - 1 - a = 6 ∧ r7 = 720))) : 0 < r7 ∧ 0 ≤ x / r7 ∧ x / r7 ≤ n - 1 - a ∧ 0 ≤ x % r7 ∧ x % r7 < facI (n - (a + 1)) := by
  unfold facI at *
  rcases hr with ⟨h1, rfl⟩ | ⟨h1, rfl⟩ | ⟨h1, rfl⟩ | ⟨h1, rfl⟩ | ⟨h1, rfl⟩ | ⟨h1, rfl⟩ <;> omega
theorem usB_le (u r : Nat) : usB u r ≤ r := by
  induction r with
  | zero => exact Nat.le_refl 0
  | succ r ih =>
    unfold usB
    by_cases c : u.testBit r = true
    · rw [if_pos c]; omega
    · rw [if_neg c]; omega
theorem ok_laysOrder (q : dS) (p1 : Int32) (hT : TS q) (hp0 : 0 ≤ Int32.toInt p1) (hp1 : Int32.toInt p1 < facI (Int32.toInt (q.1 2 29))) : dOk (zX10_laysOrder q p1) (fun (o : dS) => (TS o) ∧ (dFr [16] [] q o)) := by
  have fs : 0 ≤ Int32.toInt (q.1 2 29) ∧ Int32.toInt (q.1 2 29) ≤ 6 := hT.1 2 29
  have hp2 : Int32.toInt p1 < 720 := by unfold facI at hp1; omega
  unfold zX10_laysOrder zX10_laysOrder_7
  refine dFix_ok (fun (a : dS × Int32 × Int32 × Int32 × Int32) => TS a.1 ∧ dFr [16] [] q a.1 ∧ a.2.1 = p1 ∧ (∃ u : Nat, u < 64 ∧ a.2.2.1 = nI u ∧ (usB u 6 : Int) = a.2.2.2.2.toInt) ∧ 0 ≤ a.2.2.2.1.toInt ∧ a.2.2.2.1.toInt < facI (Int32.toInt (q.1 2 29) - a.2.2.2.2.toInt) ∧ 0 ≤ a.2.2.2.2.toInt ∧ a.2.2.2.2.toInt ≤ Int32.toInt (q.1 2 29)) (fun (a : dS × Int32 × Int32 × Int32 × Int32) => (6 - a.2.2.2.2.toInt).toNat) ?_ _ ?_ _ (dF_gt ?_)
  · intro a ha k7 hk7
    obtain ⟨qa, x1, x2, x3, x4⟩ := a
    obtain ⟨hT, hF, e1, ⟨u, hu, eu, hus⟩, hx0, hx1, h40, h41⟩ := ha
    replace hT : TS qa := hT
    replace hF : dFr [16] [] q qa := hF
    replace e1 : x1 = p1 := e1
    replace eu : x2 = nI u := eu
    replace hus : (usB u 6 : Int) = x4.toInt := hus
    replace hx0 : 0 ≤ x3.toInt := hx0
    replace hx1 : x3.toInt < facI (Int32.toInt (q.1 2 29) - x4.toInt) := hx1
    replace h40 : 0 ≤ x4.toInt := h40
    replace h41 : x4.toInt ≤ Int32.toInt (q.1 2 29) := h41
    have w29 : Int32.toInt (qa.1 2 29) = Int32.toInt (q.1 2 29) := by rw [hF.1 2 (by decide) (by decide)]
    subst e1 eu
    show dOk (zX10_laysOrder_7b (fun q x1 x2 x3 x4 => k7 (q, x1, x2, x3, x4)) qa x1 (nI u) x3 x4) _
    unfold zX10_laysOrder_7b
    refine dOk_B (ok_size qa hT) (fun r1 q3 hr => ?_)
    have e3 : q3 = qa := hr.1
    have hr1 : Int32.toInt r1 = Int32.toInt (qa.1 2 29) := hr.2.1
    subst e3
    refine dOk_le rfl rfl (fun _ => dOk_some ⟨hT, hF⟩) (fun c => ?_)
    refine dOk_B (ok_size q3 hT) (fun r4 q6 hr4 => ?_)
    have e6 : q6 = q3 := hr4.1
    have hr4' : Int32.toInt r4 = Int32.toInt (q3.1 2 29) := hr4.2.1
    subst e6
    have t1 : Int32.toInt (r4 - 1) = Int32.toInt r4 - 1 := ti_sub rfl (by decide) (by omega) (by omega)
    have t2 : Int32.toInt (r4 - 1 - x4) = Int32.toInt r4 - 1 - x4.toInt := ti_sub t1 rfl (by omega) (by omega)
    refine dOk_V (ok_allOrders (r4 - 1 - x4) (by omega)) (fun r7 hr7 => ?_)
    have hr7 := (show ((Int32.toInt (r4 - 1 - x4) ≤ 1 ∧ Int32.toInt r7 = 1) ∨ (Int32.toInt (r4 - 1 - x4) = 2 ∧ Int32.toInt r7 = 2) ∨ (Int32.toInt (r4 - 1 - x4) = 3 ∧ Int32.toInt r7 = 6) ∨ (Int32.toInt (r4 - 1 - x4) = 4 ∧ Int32.toInt r7 = 24) ∨ (Int32.toInt (r4 - 1 - x4) = 5 ∧ Int32.toInt r7 = 120) ∨ (Int32.toInt (r4 - 1 - x4) = 6 ∧ Int32.toInt r7 = 720)) from hr7)
    obtain ⟨k1, k2, k3, k4, k5⟩ := skip_le (n := Int32.toInt (q.1 2 29)) (a := x4.toInt) (x := x3.toInt) (r7 := r7.toInt) (by omega) h40 (by omega) hx0 hx1 (by omega)
    have t3 : Int32.toInt (x3 / r7) = x3.toInt / r7.toInt := ti_div rfl rfl hx0 k1
    have t4 : Int32.toInt (x3 - x3 / r7 * r7) = x3.toInt % r7.toInt := ti_rem rfl rfl hx0 k1
    refine dOk_G (dnz_ok (by omega)) (dOk_G (dnz_ok (by omega)) ?_)
    generalize x3 / r7 = s0 at *
    generalize x3 - s0 * r7 = rest at *
    unfold zX10_laysOrder_44
    refine dFix_ok (fun (a : dS × Int32 × Int32 × Int32 × Int32 × Int32 × Int32) => a.1 = q6 ∧ a.2.1 = x1 ∧ a.2.2.1 = nI u ∧ a.2.2.2.1 = rest ∧ a.2.2.2.2.1 = x4 ∧ ∃ r : Nat, r ≤ 6 ∧ a.2.2.2.2.2.2 = nI r ∧ 0 ≤ a.2.2.2.2.2.1.toInt ∧ a.2.2.2.2.2.1.toInt + (r : Int) - (usB u r : Int) = s0.toInt) (fun (a : dS × Int32 × Int32 × Int32 × Int32 × Int32 × Int32) => (6 - a.2.2.2.2.2.2.toInt).toNat) ?_ _ ?_ _ (dF_gt ?_)
    · intro a ha k44 hk44
      obtain ⟨qb, y1, y2, y3, y4, y6, y7⟩ := a
      obtain ⟨e1, e2, e3, e4, e5, r, hr6, e7, hs, hsum⟩ := ha
      replace e1 : qb = q6 := e1
      replace e2 : y1 = x1 := e2
      replace e3 : y2 = nI u := e3
      replace e4 : y3 = rest := e4
      replace e5 : y4 = x4 := e5
      replace e7 : y7 = nI r := e7
      replace hs : 0 ≤ y6.toInt := hs
      replace hsum : y6.toInt + (r : Int) - (usB u r : Int) = s0.toInt := hsum
      subst e1 e2 e3 e4 e5 e7
      have hr5 : r ≤ 5 := by
        rcases Nat.lt_or_ge r 6 with z | z
        · omega
        · have : r = 6 := by omega
          subst this
          omega
      have tr : Int32.toInt (nI r) = (r : Int) := nI_toInt (by omega)
      have tr1 : Int32.toInt (nI r + 1) = (r : Int) + 1 := ti_add tr (by decide) (by omega) (by omega)
      have e_r1 : nI r + 1 = nI (r + 1) := nI_1 r
      show dOk (zX10_laysOrder_44b _ (fun q x1 x2 x3 x4 x6 x7 => k44 (q, x1, x2, x3, x4, x6, x7)) qb y1 (nI u) y3 y4 y6 (nI r)) _
      have h74 : ∀ y0 : Int32, ((y0.toInt = 1 ∧ u.testBit r = false ∧ 0 < y6.toInt) ∨ (y0.toInt = 0 ∧ u.testBit r = true)) → dOk (zX10_laysOrder_74 (fun q x1 x2 x3 x4 => k7 (q, x1, x2, x3, x4)) (fun q x1 x2 x3 x4 x6 x7 => k44 (q, x1, x2, x3, x4, x6, x7)) qb y1 (nI u) y3 y4 (nI r) y0 y6) (fun (o : dS) => (TS o) ∧ (dFr [16] [] q o)) := by
        intro y0 hy
        unfold zX10_laysOrder_74
        have ty : Int32.toInt (y6 - y0) = y6.toInt - y0.toInt := ti_sub rfl rfl (by omega) (by have := ti_rg y6; omega)
        refine hk44 (qb, y1, nI u, y3, y4, y6 - y0, nI r + 1) ⟨rfl, rfl, rfl, rfl, rfl, r + 1, by omega, e_r1, ?_, ?_⟩ ?_
        · show 0 ≤ Int32.toInt (y6 - y0)
          omega
        · show Int32.toInt (y6 - y0) + ((r + 1 : Nat) : Int) - (usB u (r + 1) : Int) = s0.toInt
          unfold usB
          rcases hy with ⟨h1, h2, h3⟩ | ⟨h1, h2⟩
          · rw [h2, if_neg (by decide)]; omega
          · rw [h2, if_pos rfl]; omega
        · show (6 - Int32.toInt (nI r + 1)).toNat < (6 - Int32.toInt (nI r)).toNat
          omega
      have h58 : (u.testBit r = true ∨ 0 < y6.toInt) → dOk (zX10_laysOrder_58 (fun q x1 x2 x3 x4 => k7 (q, x1, x2, x3, x4)) (fun q x1 x2 x3 x4 x6 x7 => k44 (q, x1, x2, x3, x4, x6, x7)) qb y1 (nI u) y3 y4 y6 (nI r)) (fun (o : dS) => (TS o) ∧ (dFr [16] [] q o)) := by
        intro hh
        unfold zX10_laysOrder_58
        refine dOk_V (isIn_eq hu (by omega)) (fun o ho => ?_)
        rcases ho with ⟨rfl, hb⟩ | ⟨rfl, hb⟩
        · rw [if_neg (by decide)]
          exact h74 0 (Or.inr ⟨by decide, hb⟩)
        · rw [if_pos rfl]
          refine h74 1 (Or.inl ⟨by decide, hb, ?_⟩)
          rcases hh with hh | hh
          · rw [hb] at hh; cases hh
          · exact hh
      unfold zX10_laysOrder_44b
      refine dOk_V (isIn_eq hu (by omega)) (fun o ho => ?_)
      rcases ho with ⟨rfl, hb⟩ | ⟨rfl, hb⟩
      · rw [if_neg (by decide)]
        exact h58 (Or.inl hb)
      · rw [if_pos rfl]
        refine dOk_le (A := y6.toInt) (B := 0) rfl (by decide) (fun c2 => ?_) (fun c2 => h58 (Or.inr c2))
        have m1 : Int32.toInt (6 * y1) = 6 * y1.toInt := ti_mul (by decide) rfl (by omega) (by omega)
        have m2 : Int32.toInt (6 * y1 + y4) = 6 * y1.toInt + y4.toInt := ti_add m1 rfl (by omega) (by omega)
        refine dOk_G (dg_ok (by omega) (by omega)) (dOk_L (fun q4 e4 => ?_))
        obtain ⟨o1, o2, o3⟩ := or_bit u hu r (by omega) hb
        have t5 : Int32.toInt (y4 + 1) = y4.toInt + 1 := ti_add rfl (by decide) (by omega) (by omega)
        refine hk7 (q4, y1, nI u ||| (1 <<< (nI r &&& 31)), y3, y4 + 1) ⟨?_, ?_, rfl, ⟨u ||| 2 ^ r, o2, o1, ?_⟩, ?_, ?_, ?_, ?_⟩ ?_
        · show TS q4
          rw [e4]; exact ts_set hT (by decide) (show (0 : Int) ≤ Int32.toInt (nI r) by omega) (show Int32.toInt (nI r) ≤ 5 by omega)
        · show dFr [16] [] q q4
          rw [e4]; exact hF.i (by decide) (by decide)
        · show (usB (u ||| 2 ^ r) 6 : Int) = Int32.toInt (y4 + 1)
          rw [o3]; omega
        · show 0 ≤ y3.toInt
          omega
        · show y3.toInt < facI (Int32.toInt (q.1 2 29) - Int32.toInt (y4 + 1))
          rw [t5]; omega
        · show 0 ≤ Int32.toInt (y4 + 1)
          omega
        · show Int32.toInt (y4 + 1) ≤ Int32.toInt (q.1 2 29)
          omega
        · show (6 - Int32.toInt (y4 + 1)).toNat < (6 - y4.toInt).toNat
          omega
    · exact ⟨rfl, rfl, rfl, rfl, rfl, 0, by omega, rfl, (show 0 ≤ s0.toInt by omega), (show s0.toInt + ((0 : Nat) : Int) - (usB u 0 : Int) = s0.toInt by unfold usB; omega)⟩
    · show (6 - Int32.toInt 0).toNat < 1000000000000
      decide
  · exact ⟨hT, dFr.rf, rfl, ⟨0, by decide, rfl, by show ((usB 0 6 : Nat) : Int) = Int32.toInt 0; decide⟩, hp0, (show Int32.toInt p1 < facI (Int32.toInt (q.1 2 29) - Int32.toInt 0) by rw [show Int32.toInt 0 = (0 : Int) by decide, Int.sub_zero]; exact hp1), (show (0 : Int) ≤ Int32.toInt 0 by decide), (show Int32.toInt 0 ≤ Int32.toInt (q.1 2 29) by rw [show Int32.toInt 0 = (0 : Int) by decide]; omega)⟩
  · show (6 - Int32.toInt 0).toNat < 1000000000000
    decide
