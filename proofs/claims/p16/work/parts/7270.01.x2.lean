/-! two values joined -/
theorem j_end (q : dK) (y : Int64) : dAll (zX2_join_s18_163 q y) (fun r => (jnR y.toInt = some r.1.toInt ∧ r.2 = q) ∨ (jnR y.toInt = none ∧ r.2 = cui q 18 1 1)) := by
  have d0 : Int32.toInt 0 = 0 := by decide
  have hM : Int64.toInt 1000000000 = 1000000000 := by decide
  have hm : Int64.toInt (-1000000000) = -1000000000 := by decide
  unfold zX2_join_s18_163 zX2_join_s18_181
  refine dA_lt (fun c => ?_) (fun c => dA_le (fun c2 => ?_) (fun c2 => ?_))
  · refine dA_L (fun q1 e1 => dA_some (Or.inr ⟨?_, e1⟩))
    unfold jnR
    have h1 := lg_ge (x := y) (y := 1000000000) (by omega)
    have h2 : ¬ y.toInt = 1000000000 := fun z => by
      have e9 : y = 1000000000 := Int64.toInt_inj.mp (z.trans hM.symm)
      rw [e9] at c
      exact absurd c (by decide)
    rw [if_pos (Or.inl (by omega))]
  · refine dA_some (Or.inl ⟨?_, rfl⟩)
    unfold jnR
    have h1 := lg_le (x := y) (y := 1000000000) (by omega)
    have h2 := lg_ge (x := y) (y := -1000000000) (by omega)
    rw [if_neg (by omega)]
    exact congrArg some (l2i (by omega) (by omega)).symm
  · refine dA_L (fun q1 e1 => dA_some (Or.inr ⟨?_, e1⟩))
    unfold jnR
    have h1 := lg_le (x := y) (y := -1000000000) (by omega)
    have h2 : ¬ y.toInt = -1000000000 := fun z => by
      have e9 : y = -1000000000 := Int64.toInt_inj.mp (z.trans hm.symm)
      rw [e9] at c2
      exact absurd c2 (by decide)
    rw [if_pos (Or.inr (by omega))]
theorem lg_rf (x : Int64) : lg_cmp x x = 0 := by
  unfold lg_cmp
  rw [if_neg (fun z => by have := Int64.lt_iff_toInt_lt.mp z; omega), if_pos rfl]
theorem j_tdiv (a b : Int32) : (Int32.toInt64 a / Int32.toInt64 b : Int64).toInt = a.toInt.tdiv b.toInt := by
  have ha := ti_rg a
  rw [Int64.toInt_div_of_ne_left _ _ (fun z => by
    have z2 := congrArg Int64.toInt z
    rw [i2l] at z2
    have z3 : Int64.toInt Int64.minValue = -9223372036854775808 := by decide
    omega), i2l, i2l]
theorem j_01 (q : dK) (y : Int64) (z : Int) (h : y.toInt = z) (hz : z = 0 ∨ z = 1) : dAll (zX2_join_s18_163 q y) (fun r => r.1.toInt = z ∧ r.2 = q) := by
  refine dA_mono (j_end q y) (fun r w => ?_)
  have e1 : jnR y.toInt = some z := by unfold jnR; rw [if_neg (by omega), h]
  rcases w with ⟨w1, w2⟩ | ⟨w1, w2⟩
  · rw [e1] at w1
    exact ⟨(Option.some.inj w1).symm, w2⟩
  · rw [e1] at w1
    cases w1
theorem j_join (q : dK) (o a b : Int32) (h2 : 2 ≤ o.toInt) (h9 : o.toInt ≤ 9) : dAll (zX2_join_s18 q o (Int32.toInt64 a) (Int32.toInt64 b)) (fun r => (jn o.toInt a.toInt b.toInt = some r.1.toInt ∧ r.2 = q) ∨ (jn o.toInt a.toInt b.toInt = none ∧ ¬ r.2.1 18 1 = 0 ∧ (∀ j k : Nat, ¬ (j = 18 ∧ k = 1) → r.2.1 j k = q.1 j k) ∧ r.2.2 = q.2)) := by
  have ha := ti_rg a
  have hb := ti_rg b
  have la := i2l a
  have lb := i2l b
  have d2' : Int32.toInt 2 = 2 := by decide
  have d3 : Int32.toInt 3 = 3 := by decide
  have d4 : Int32.toInt 4 = 4 := by decide
  have d5 : Int32.toInt 5 = 5 := by decide
  have d6 : Int32.toInt 6 = 6 := by decide
  have d7 : Int32.toInt 7 = 7 := by decide
  have d8 : Int32.toInt 8 = 8 := by decide
  have d9 : Int32.toInt 9 = 9 := by decide
  have L0 : Int64.toInt 0 = 0 := by decide
  have L1 : Int64.toInt 1 = 1 := by decide
  have d0 : Int32.toInt 0 = 0 := by decide
  have fin : ∀ (y : Int64) (v : Option Int), jnR y.toInt = v → dAll (zX2_join_s18_163 q y) (fun r => (v = some r.1.toInt ∧ r.2 = q) ∨ (v = none ∧ ¬ r.2.1 18 1 = 0 ∧ (∀ j k : Nat, ¬ (j = 18 ∧ k = 1) → r.2.1 j k = q.1 j k) ∧ r.2.2 = q.2)) := by
    intro y v hv
    subst hv
    refine dA_mono (j_end q y) (fun r w => ?_)
    rcases w with w | ⟨w1, w2⟩
    · exact Or.inl w
    · exact Or.inr ⟨w1, by rw [w2, cui_e]; decide, fun j k hj => by rw [w2, cui_x hj], by rw [w2]; rfl⟩
  have fl : ∀ y : Int64, dAll (dL (cui q 18 1 1) (fun q7 => zX2_join_s18_163 q7 y)) (fun r => ¬ r.2.1 18 1 = 0 ∧ (∀ j k : Nat, ¬ (j = 18 ∧ k = 1) → r.2.1 j k = q.1 j k) ∧ r.2.2 = q.2) := by
    intro y
    refine dA_L (fun q7 e7 => dA_mono (j_end q7 y) (fun r w => ?_))
    rcases w with ⟨_, w2⟩ | ⟨_, w2⟩
    · exact ⟨by rw [w2, e7, cui_e]; decide, fun j k hj => by rw [w2, e7, cui_x hj], by rw [w2, e7]; rfl⟩
    · exact ⟨by rw [w2, cui_e]; decide, fun j k hj => by rw [w2, cui_x hj, e7, cui_x hj], by rw [w2, e7]; rfl⟩
  have c0 : (lg_cmp (Int32.toInt64 b) 0) = 0 → b.toInt = 0 := fun z => by
    have z1 := lg_ge (x := Int32.toInt64 b) (y := 0) (by rw [z]; decide)
    have z2 := lg_le (x := Int32.toInt64 b) (y := 0) (by rw [z]; decide)
    omega
  have c1 : ¬ (lg_cmp (Int32.toInt64 b) 0) = 0 → ¬ b.toInt = 0 := fun z y => z (by rw [Int64.toInt_inj.mp ((lb.trans y).trans L0.symm)]; exact lgz)
  unfold zX2_join_s18 zX2_join_s18_161 zX2_join_s18_125 zX2_join_s18_108 zX2_join_s18_91
  refine dA_eq (fun _ k2 => ?_) (fun _ k2 => dA_eq (fun _ k3 => ?_) (fun _ k3 => dA_eq (fun _ k4 => ?_) (fun _ k4 => dA_eq (fun z5 k5 => ?_) (fun z5 k5 => dA_eq (fun _ k6 => ?_) (fun _ k6 => dA_eq (fun _ k7 => ?_) (fun _ k7 => dA_eq (fun _ k8 => ?_) (fun _ k8 => dA_eq (fun _ k9 => ?_) (fun _ k9 => ?_))))))))
  · have ej : jn o.toInt a.toInt b.toInt = jnR (a.toInt + b.toInt) := by unfold jn; rw [if_pos (by omega)]
    rw [ej]
    exact fin _ _ (by rw [tl_add la lb (by omega) (by omega)])
  · have ej : jn o.toInt a.toInt b.toInt = jnR (a.toInt - b.toInt) := by unfold jn; rw [if_neg (by omega), if_pos (by omega)]
    rw [ej]
    exact fin _ _ (by rw [tl_sub la lb (by omega) (by omega)])
  · have ej : jn o.toInt a.toInt b.toInt = jnR (a.toInt * b.toInt) := by unfold jn; rw [if_neg (by omega), if_neg (by omega), if_pos (by omega)]
    rw [ej]
    have m1 : -4611686018427387904 ≤ a.toInt * b.toInt ∧ a.toInt * b.toInt ≤ 4611686018427387904 := by
      have hab : (a.toInt * b.toInt).natAbs ≤ 2147483648 * 2147483648 := by
        rw [Int.natAbs_mul]
        exact Nat.mul_le_mul (by omega) (by omega)
      generalize a.toInt * b.toInt = z at hab ⊢
      omega
    exact fin _ _ (by rw [tl_mul la lb (by omega) (by omega)])
  · have ej : jn o.toInt a.toInt b.toInt = (if b.toInt = 0 then none else if o.toInt = 5 then jnR (a.toInt.tdiv b.toInt) else jnR (a.toInt.tmod b.toInt)) := by unfold jn; rw [if_neg (by omega), if_neg (by omega), if_neg (by omega), if_neg (by omega), if_neg (by omega), if_neg (by omega)]
    rw [ej]
    refine dA_if (fun z => ?_) (fun z => ?_)
    · rw [if_pos (c0 z)]
      exact dA_mono (fl 0) (fun r w => Or.inr ⟨rfl, w⟩)
    · have e5 : o.toInt = 5 := by omega
      rw [if_neg (c1 z), if_pos z5, if_pos e5]
      refine dA_G (fun _ => fin _ _ (by rw [j_tdiv]))
  · have ej : jn o.toInt a.toInt b.toInt = (if b.toInt = 0 then none else if o.toInt = 5 then jnR (a.toInt.tdiv b.toInt) else jnR (a.toInt.tmod b.toInt)) := by unfold jn; rw [if_neg (by omega), if_neg (by omega), if_neg (by omega), if_neg (by omega), if_neg (by omega), if_neg (by omega)]
    rw [ej]
    refine dA_if (fun z => ?_) (fun z => ?_)
    · rw [if_pos (c0 z)]
      exact dA_mono (fl 0) (fun r w => Or.inr ⟨rfl, w⟩)
    · have e5 : ¬ o.toInt = 5 := by omega
      rw [if_neg (c1 z), if_neg z5, if_neg e5]
      refine dA_G (fun _ => fin _ _ ?_)
      have hd := j_tdiv a b
      have hq : (a.toInt.tdiv b.toInt).natAbs ≤ a.toInt.natAbs := Int.natAbs_tdiv_le_natAbs _ _
      have hmd : a.toInt.tmod b.toInt = a.toInt - b.toInt * a.toInt.tdiv b.toInt := Int.tmod_def _ _
      have hbd : (b.toInt * a.toInt.tdiv b.toInt).natAbs ≤ 2147483648 * 2147483648 := by
        rw [Int.natAbs_mul]
        exact Nat.mul_le_mul (by omega) (by omega)
      rw [Int.mul_comm] at hmd hbd
      have hm : (Int32.toInt64 a / Int32.toInt64 b * Int32.toInt64 b : Int64).toInt = a.toInt.tdiv b.toInt * b.toInt := by
        have hw : -4611686018427387904 ≤ a.toInt.tdiv b.toInt * b.toInt ∧ a.toInt.tdiv b.toInt * b.toInt ≤ 4611686018427387904 := by
          generalize a.toInt.tdiv b.toInt * b.toInt = w at hbd ⊢
          omega
        exact tl_mul hd lb (by omega) (by omega)
      rw [hmd]
      generalize a.toInt.tdiv b.toInt * b.toInt = w at hbd hm ⊢
      rw [tl_sub la hm (by omega) (by omega)]
  · have ej : jn o.toInt a.toInt b.toInt = some (if a.toInt < b.toInt then 1 else 0) := by unfold jn; rw [if_neg (by omega), if_neg (by omega), if_neg (by omega), if_pos (by omega)]
    rw [ej]
    refine dA_le (fun z => ?_) (fun z => ?_)
    · have h := lg_ge (x := Int32.toInt64 a) (y := Int32.toInt64 b) (by omega)
      rw [if_neg (by omega)]
      exact dA_mono (j_01 q 0 0 L0 (Or.inl rfl)) (fun r w => Or.inl ⟨by rw [w.1], w.2⟩)
    · have h : a.toInt < b.toInt := by
        have h1 := lg_le (x := Int32.toInt64 a) (y := Int32.toInt64 b) (by omega)
        have h3 : ¬ a.toInt = b.toInt := fun y => by
          have e9 : Int32.toInt64 a = Int32.toInt64 b := Int64.toInt_inj.mp (by omega)
          rw [e9, lg_rf] at z
          omega
        omega
      rw [if_pos h]
      exact dA_mono (j_01 q 1 1 L1 (Or.inr rfl)) (fun r w => Or.inl ⟨by rw [w.1], w.2⟩)
  · have ej : jn o.toInt a.toInt b.toInt = some (if b.toInt < a.toInt then 1 else 0) := by unfold jn; rw [if_neg (by omega), if_neg (by omega), if_neg (by omega), if_neg (by omega), if_pos (by omega)]
    rw [ej]
    refine dA_le (fun z => ?_) (fun z => ?_)
    · have h := lg_le (x := Int32.toInt64 a) (y := Int32.toInt64 b) (by omega)
      rw [if_neg (by omega)]
      exact dA_mono (j_01 q 0 0 L0 (Or.inl rfl)) (fun r w => Or.inl ⟨by rw [w.1], w.2⟩)
    · have h : b.toInt < a.toInt := by
        have h1 := lg_ge (x := Int32.toInt64 a) (y := Int32.toInt64 b) (by omega)
        have h3 : ¬ a.toInt = b.toInt := fun y => by
          have e9 : Int32.toInt64 a = Int32.toInt64 b := Int64.toInt_inj.mp (by omega)
          rw [e9, lg_rf] at z
          omega
        omega
      rw [if_pos h]
      exact dA_mono (j_01 q 1 1 L1 (Or.inr rfl)) (fun r w => Or.inl ⟨by rw [w.1], w.2⟩)
  · have ej : jn o.toInt a.toInt b.toInt = some (if a.toInt = b.toInt then 1 else 0) := by unfold jn; rw [if_neg (by omega), if_neg (by omega), if_neg (by omega), if_neg (by omega), if_neg (by omega), if_pos (by omega)]
    rw [ej]
    refine dA_if (fun z => ?_) (fun z => ?_)
    · have h1 := lg_ge (x := Int32.toInt64 a) (y := Int32.toInt64 b) (by rw [z]; decide)
      have h2 := lg_le (x := Int32.toInt64 a) (y := Int32.toInt64 b) (by rw [z]; decide)
      rw [if_pos (by omega)]
      exact dA_mono (j_01 q 1 1 L1 (Or.inr rfl)) (fun r w => Or.inl ⟨by rw [w.1], w.2⟩)
    · have h : ¬ a.toInt = b.toInt := fun y => by
        have e9 : Int32.toInt64 a = Int32.toInt64 b := Int64.toInt_inj.mp (by omega)
        rw [e9, lg_rf] at z
        exact z rfl
      rw [if_neg h]
      exact dA_mono (j_01 q 0 0 L0 (Or.inl rfl)) (fun r w => Or.inl ⟨by rw [w.1], w.2⟩)
  · omega
