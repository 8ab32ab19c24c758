theorem shl_pow : ∀ n : Nat, n < 7 → (1 <<< (nI n &&& 31) : Int32) = nI (2 ^ n) := by decide +kernel
theorem ok_laysTables2 (q : dS) (n : Nat) (hT : TS q) (hn : (q.1 2 29).toInt = (n : Int)) : dOk (zX10_laysTables q) (fun o => TS o ∧ dFr [16, 17, 18, 19] [37, 38] q o ∧ tabs o n) := by
  have fs : 0 ≤ Int32.toInt (q.1 2 29) ∧ Int32.toInt (q.1 2 29) ≤ 6 := hT.1 2 29
  have hn6 : n ≤ 6 := by omega
  unfold zX10_laysTables
  refine dOk_B (ok_size q hT) (fun r1 q3 hr => ?_)
  have eq3 : q3 = q := hr.1
  have hr1 : Int32.toInt r1 = Int32.toInt (q.1 2 29) := hr.2.1
  subst eq3
  refine dOk_V (ok_allOrders r1 (show Int32.toInt r1 ≤ 6 by omega)) (fun r4 hr4 => ?_)
  replace hr4 : (((Int32.toInt r1 ≤ 1 ∧ Int32.toInt r4 = 1) ∨ (Int32.toInt r1 = 2 ∧ Int32.toInt r4 = 2) ∨ (Int32.toInt r1 = 3 ∧ Int32.toInt r4 = 6) ∨ (Int32.toInt r1 = 4 ∧ Int32.toInt r4 = 24) ∨ (Int32.toInt r1 = 5 ∧ Int32.toInt r4 = 120) ∨ (Int32.toInt r1 = 6 ∧ Int32.toInt r4 = 720))) := hr4
  have hfn : ∀ k : Nat, k < 7 → ((k ≤ 1 ∧ facN k = 1) ∨ (k = 2 ∧ facN k = 2) ∨ (k = 3 ∧ facN k = 6) ∨ (k = 4 ∧ facN k = 24) ∨ (k = 5 ∧ facN k = 120) ∨ (k = 6 ∧ facN k = 720)) := by decide
  have hfn := hfn n (by omega)
  have t4 : Int32.toInt r4 = (facN n : Int) := by omega
  have er4 : r4 = nI (facN n) := Int32.toInt_inj.mp (by rw [t4, nI_toInt (by omega)])
  refine dOk_L (fun q6 e6 => ?_)
  have hT6 : TS q6 := by rw [e6]; exact ts_f hT (show 0 ≤ Int32.toInt r4 by omega) (show Int32.toInt r4 ≤ 720 by omega)
  have hF6 : dFr [16, 17, 18, 19] [37, 38] q3 q6 := by rw [e6]; exact (dFr.rf (q := q3)).f (by decide)
  have w6 : Int32.toInt (q6.1 2 29) = (n : Int) := by rw [e6, dui_o (by decide)]; exact hn
  refine dOk_B (ok_size q6 hT6) (fun r7 q9 hr7 => ?_)
  have eq9 : q9 = q6 := hr7.1
  have hr7' : Int32.toInt r7 = Int32.toInt (q6.1 2 29) := hr7.2.1
  have er7 : r7 = nI n := Int32.toInt_inj.mp (by rw [hr7', w6, nI_toInt (by omega)])
  subst eq9
  rw [er7, shl_pow n (by omega)]
  refine dOk_L (fun q10 e10 => ?_)
  have h64 : 2 ^ n ≤ 2 ^ 6 := Nat.pow_le_pow_right (by decide) hn6
  have t2n : Int32.toInt (nI (2 ^ n)) = ((2 ^ n : Nat) : Int) := nI_toInt (by omega)
  have hT10 : TS q10 := by rw [e10]; exact ts_f hT6 (show 0 ≤ Int32.toInt (nI (2 ^ n)) by rw [t2n]; exact Int.natCast_nonneg _) (show Int32.toInt (nI (2 ^ n)) ≤ 64 by rw [t2n]; exact Int.ofNat_le.mpr h64)
  have hF10 : dFr [16, 17, 18, 19] [37, 38] q3 q10 := by rw [e10]; exact hF6.f (by decide)
  have w10 : (q10.1 2 29).toInt = (n : Int) := by rw [e10, dui_o (by decide)]; exact w6
  exact ok_tabO q3 q10 [16, 17, 18, 19] [37, 38] n (by decide) (by decide) (by decide) (by decide) hT10 hF10 w10 (by rw [e10, dui_n (by decide), e6, dui_e, er4]) (by rw [e10, dui_e])
