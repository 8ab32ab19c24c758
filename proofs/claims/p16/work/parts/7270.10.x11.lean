/-! a law asked: the class -/
theorem mx_cl (r : Int32) : Int32.toInt (mxI 0 (mnI 99 r)) = clI (Int32.toInt r) := by
  have d0 : Int32.toInt 0 = 0 := by decide
  have d99 : Int32.toInt 99 = 99 := by decide
  unfold mxI mnI clI
  by_cases c : r < 99
  · have c2 := Int32.lt_iff_toInt_lt.mp c
    rw [if_pos c]
    by_cases d : (0 : Int32) < r
    · have d2 := Int32.lt_iff_toInt_lt.mp d
      rw [if_pos d, if_neg (by omega), if_neg (by omega)]
    · have d2 : ¬ Int32.toInt 0 < Int32.toInt r := fun z => d (Int32.lt_iff_toInt_lt.mpr z)
      rw [if_neg d, d0]
      by_cases e : Int32.toInt r < 0
      · rw [if_pos e]
      · rw [if_neg e, if_neg (by omega)]; omega
  · have c2 : ¬ Int32.toInt r < Int32.toInt 99 := fun z => c (Int32.lt_iff_toInt_lt.mpr z)
    rw [if_neg c, if_pos (by decide), if_neg (by omega)]
    by_cases e : 99 < Int32.toInt r
    · rw [if_pos e]; exact d99
    · rw [if_neg e]; omega
/-- a law's text, as its meaning has it -/
def LTx (cs vs A : Nat → Int) (T m L : Nat) (X : dT) (H : Nat → Bool) (S : Nat → Option Int) : Prop := LSem cs vs A T m L (X.2.2.2.2 0) (X.2.2.2.2 2) (X.2.2.2.2 3) (X.2.2.2.2 4) (X.2.2.2.2 5) H S ∧ Int32.toInt X.1 = (m : Int) ∧ L ≤ Int32.toNatClampNeg X.2.2.2.1 ∧ Int32.toNatClampNeg X.2.2.2.1 ≤ 400
theorem vfr.tx {q o : dK} (h : vfr q o) (x : Int32) : dTx o x = dTx q x := by
  unfold dTx
  rw [h.2]
section X11
variable {cs vs A : Nat → Int} {T m L : Nat} {X : dT} {H : Nat → Bool} {S : Nat → Option Int}
theorem c_any (hL : LTx cs vs A T m L X H S) (q : dK) (p1 x : Int32) (hx : q.1 20 2 = x) (hx0 : ¬ x = 0) (hX : dTx q x = X) (hA : ∀ k : Nat, k < 9 → Int32.toInt (q.1 21 k) = A k) : dAll (zX1_anyHolds_s20 q p1) (fun o => vfr q o.2 ∧ ((o.1 = 1 ∧ ∃ i : Nat, i < m ∧ Int32.toInt (X.2.2.2.2 0 i) = Int32.toInt p1 ∧ H i = true) ∨ (o.1 = 0 ∧ ∀ i : Nat, i < m → Int32.toInt (X.2.2.2.2 0 i) = Int32.toInt p1 → ¬ H i = true))) := by
  have d0 : Int32.toInt 0 = 0 := by decide
  have d1 : Int32.toInt 1 = 1 := by decide
  obtain ⟨⟨m1, m2, ts, ws, fa, fb, fc, -, hc⟩, hm, hl, hl4⟩ := hL
  unfold zX1_anyHolds_s20
  rw [hx]
  refine dA_if (fun c => absurd c hx0) (fun _ => ?_)
  unfold zX1_anyHolds_s20_11
  refine dA_fix (fun (a : dK × Int32 × Int32) => vfr q a.1 ∧ a.2.1 = p1 ∧ ∃ i : Nat, i ≤ m ∧ Int32.toInt a.2.2 = (i : Int) ∧ ∀ j : Nat, j < i → Int32.toInt (X.2.2.2.2 0 j) = Int32.toInt p1 → ¬ H j = true) ?_ dF _ ⟨vfr.rf, rfl, 0, Nat.zero_le _, d0, fun j hj => absurd hj (Nat.not_lt_zero j)⟩
  intro k11 hk a ha
  obtain ⟨qa, x1, x2⟩ := a
  obtain ⟨a1, a2, i, a3, a4, a5⟩ := ha
  replace a1 : vfr q qa := a1
  replace a2 : x1 = p1 := a2
  replace a4 : Int32.toInt x2 = (i : Int) := a4
  subst a2
  have e20 : qa.1 20 2 = x := (a1.1 20 2 (by decide) (by decide)).trans hx
  have eX : dTx qa x = X := (a1.tx x).trans hX
  have eA : ∀ k : Nat, k < 9 → Int32.toInt (qa.1 21 k) = A k := fun k hk9 => by rw [a1.1 21 k (by decide) (by omega)]; exact hA k hk9
  have n2 := cl_eq (i := x2) (by omega)
  have ei : Int32.toNatClampNeg x2 = i := by omega
  show dAll (zX1_anyHolds_s20_11b (fun q x1 x2 => k11 (q, x1, x2)) qa x1 x2) _
  have hnext : ∀ q21 : dK, vfr qa q21 → i < m → (Int32.toInt (X.2.2.2.2 0 i) = Int32.toInt x1 → ¬ H i = true) → dAll (zX1_anyHolds_s20_74 (fun q x1 x2 => k11 (q, x1, x2)) q21 x1 x2) (fun o => vfr q o.2 ∧ ((o.1 = 1 ∧ ∃ i : Nat, i < m ∧ Int32.toInt (X.2.2.2.2 0 i) = Int32.toInt x1 ∧ H i = true) ∨ (o.1 = 0 ∧ ∀ i : Nat, i < m → Int32.toInt (X.2.2.2.2 0 i) = Int32.toInt x1 → ¬ H i = true))) := by
    intro q21 h1 h2 h3
    unfold zX1_anyHolds_s20_74
    refine hk (q21, x1, x2 + 1) ⟨a1.t h1, rfl, i + 1, by omega, by show Int32.toInt (x2 + 1) = _; rw [ti_add a4 d1 (by omega) (by omega)]; omega, fun j hj => ?_⟩
    by_cases cj : j = i
    · rw [cj]; exact h3
    · exact a5 j (by omega)
  unfold zX1_anyHolds_s20_11b
  rw [e20, eX]
  refine dA_G (fun _ => dA_G (fun _ => dA_le (fun c => dA_some ⟨a1, Or.inr ⟨rfl, fun j hj => a5 j (by omega)⟩⟩) (fun c => ?_)))
  have him : i < m := by omega
  obtain ⟨k1, k2, k3, k4, k5, -⟩ := hc i him
  refine dA_G (fun _ => dA_G (fun _ => dA_G (fun _ => dA_G (fun _ => dA_L (fun v7 e7 => ?_)))))
  rw [ei] at e7
  refine dA_eq (fun _ c7 => ?_) (fun _ c7 => hnext qa vfr.rf him (fun z => absurd (by rw [e7]; exact z) c7))
  refine dA_G (fun _ => dA_G (fun _ => dA_G (fun _ => dA_G (fun _ => dA_G (fun _ => dA_L (fun v13 e13 => ?_))))))
  refine dA_G (fun _ => dA_G (fun _ => dA_G (fun _ => dA_G (fun _ => dA_L (fun v18 e18 => ?_)))))
  rw [ei] at e13 e18
  have z := (k5.2 qa x (X.2.2.2.2 2 i) v13 v18 (by rw [eX]) eA k1 (by rw [e13]; exact k2) (by rw [e18]; exact k3) (by rw [eX]; omega) (by rw [eX]; exact hl4)).1
  refine dA_B z (fun r19 q21 y => ?_)
  obtain ⟨y1, y2⟩ := y
  replace y1 : vfr qa q21 := y1
  replace y2 : r19 = 1 ↔ H i = true := y2
  refine dA_if (fun c19 => dA_some ⟨a1.t y1, Or.inl ⟨rfl, i, him, by rw [← e7]; exact c7, y2.mp c19⟩⟩) (fun c19 => hnext q21 y1 him (fun _ h => c19 (y2.mpr h)))
theorem TL_s {hd : Int} {K : Nat → Int} {H : Nat → Bool} {S : Nat → Option Int} {x : Int} {i : Nat} : TL hd K H S x (i + 1) = if K i + 1 = hd ∧ H i = true then ((S i).map clI).getD (TL hd K H S x i) else TL hd K H S x i := rfl
/-- bars, tips: whether one holds -/
theorem TL_any {hd : Int} {K : Nat → Int} {H : Nat → Bool} {S : Nat → Option Int} : ∀ m : Nat, (∀ i : Nat, i < m → K i + 1 = hd → S i = some 1) → (TL hd K H S 0 m = 1 ∧ ∃ i : Nat, i < m ∧ K i + 1 = hd ∧ H i = true) ∨ (TL hd K H S 0 m = 0 ∧ ∀ i : Nat, i < m → K i + 1 = hd → ¬ H i = true) := by
  intro m
  induction m with
  | zero => intro _; exact Or.inr ⟨rfl, fun i hi => absurd hi (Nat.not_lt_zero i)⟩
  | succ m ih =>
    intro h
    rw [TL_s]
    by_cases c : K m + 1 = hd ∧ H m = true
    · rw [if_pos c, h m (by omega) c.1]
      exact Or.inl ⟨rfl, m, by omega, c.1, c.2⟩
    · rw [if_neg c]
      rcases ih (fun i hi => h i (by omega)) with ⟨z, i, i1, i2, i3⟩ | ⟨z, z2⟩
      · exact Or.inl ⟨z, i, by omega, i2, i3⟩
      · refine Or.inr ⟨z, fun i hi k1 k2 => ?_⟩
        by_cases ci : i = m
        · rw [ci] at k1 k2; exact c ⟨k1, k2⟩
        · exact z2 i (by omega) k1 k2
/-- what a turn pays -/
theorem c_pay (hL : LTx cs vs A T m L X H S) (q : dK) (x : Int32) (hx : q.1 20 2 = x) (hx0 : ¬ x = 0) (hX : dTx q x = X) (hA : ∀ k : Nat, k < 9 → Int32.toInt (q.1 21 k) = A k) : dAll (zX1_pay_s20 q) (fun o => vfr q o.2 ∧ Int32.toInt o.1 = TL 1 (fun i => Int32.toInt (X.2.2.2.2 0 i)) H S (A 0) m) := by
  have d0 : Int32.toInt 0 = 0 := by decide
  have d1 : Int32.toInt 1 = 1 := by decide
  have dm : Int32.toInt (-1) = -1 := by decide
  obtain ⟨⟨m1, m2, ts, ws, fa, fb, fc, -, hc⟩, hm, hl, hl4⟩ := hL
  unfold zX1_pay_s20
  rw [hx, hX]
  refine dA_if (fun c => absurd c hx0) (fun _ => dA_G (fun _ => dA_G (fun _ => ?_)))
  unfold zX1_pay_s20_24
  refine dA_fix (fun (a : dK × Int32) => vfr q a.1 ∧ ∃ i : Nat, i ≤ m ∧ Int32.toInt a.2 = (i : Int) - 1 ∧ TL 1 (fun i => Int32.toInt (X.2.2.2.2 0 i)) H S (A 0) m = TL 1 (fun i => Int32.toInt (X.2.2.2.2 0 i)) H S (A 0) i) ?_ dF _ ⟨vfr.rf, m, Nat.le_refl _, by show Int32.toInt (X.1 - 1 : Int32) = _; rw [ti_sub hm d1 (by omega) (by omega)], rfl⟩
  intro k24 hk a ha
  obtain ⟨qa, x1⟩ := a
  obtain ⟨a1, i, a3, a4, a5⟩ := ha
  replace a1 : vfr q qa := a1
  replace a4 : Int32.toInt x1 = (i : Int) - 1 := a4
  have e20 : qa.1 20 2 = x := (a1.1 20 2 (by decide) (by decide)).trans hx
  have eX : dTx qa x = X := (a1.tx x).trans hX
  have eA : ∀ k : Nat, k < 9 → Int32.toInt (qa.1 21 k) = A k := fun k hk9 => by rw [a1.1 21 k (by decide) (by omega)]; exact hA k hk9
  show dAll (zX1_pay_s20_24b (fun q x1 => k24 (q, x1)) qa x1) _
  unfold zX1_pay_s20_24b
  rw [e20, eX]
  refine dA_lt (fun c => dA_some ⟨a1, ?_⟩) (fun c => ?_)
  · have i0 : i = 0 := by omega
    rw [a5, i0]
    exact eA 0 (by decide)
  obtain ⟨j, hj⟩ : ∃ j : Nat, i = j + 1 := ⟨i - 1, by omega⟩
  subst hj
  have n1 := cl_eq (i := x1) (by omega)
  have ej : Int32.toNatClampNeg x1 = j := by omega
  have hjm : j < m := by omega
  obtain ⟨k1, k2, k3, k4, k5, -⟩ := hc j hjm
  have hnext : ∀ q21 : dK, vfr qa q21 → TL 1 (fun i => Int32.toInt (X.2.2.2.2 0 i)) H S (A 0) (j + 1) = TL 1 (fun i => Int32.toInt (X.2.2.2.2 0 i)) H S (A 0) j → dAll (zX1_pay_s20_132 (fun q x1 => k24 (q, x1)) q21 x1) (fun o => vfr q o.2 ∧ Int32.toInt o.1 = TL 1 (fun i => Int32.toInt (X.2.2.2.2 0 i)) H S (A 0) m) := by
    intro q21 h1 h2
    unfold zX1_pay_s20_132
    exact hk (q21, x1 + (-1)) ⟨a1.t h1, j, by omega, by show Int32.toInt (x1 + (-1)) = _; rw [ti_add a4 dm (by omega) (by omega)]; omega, a5.trans h2⟩
  refine dA_G (fun _ => dA_G (fun _ => dA_G (fun _ => dA_G (fun _ => dA_L (fun v5 e5 => ?_)))))
  rw [ej] at e5
  have hno : ¬ (Int32.toInt (X.2.2.2.2 0 j) + 1 = 1 ∧ H j = true) → TL 1 (fun i => Int32.toInt (X.2.2.2.2 0 i)) H S (A 0) (j + 1) = TL 1 (fun i => Int32.toInt (X.2.2.2.2 0 i)) H S (A 0) j := fun hn => by rw [TL_s]; exact if_neg hn
  refine dA_eq (fun _ c5 => ?_) (fun _ c5 => hnext qa vfr.rf (hno (fun z => c5 (by rw [e5, d0]; omega))))
  have hk0 : Int32.toInt (X.2.2.2.2 0 j) = 0 := by rw [← e5, c5]; exact d0
  refine dA_G (fun _ => dA_G (fun _ => dA_G (fun _ => dA_G (fun _ => dA_G (fun _ => dA_L (fun v11 e11 => ?_))))))
  refine dA_G (fun _ => dA_G (fun _ => dA_G (fun _ => dA_G (fun _ => dA_L (fun v16 e16 => ?_)))))
  rw [ej] at e11 e16
  have z := (k5.2 qa x (X.2.2.2.2 2 j) v11 v16 (by rw [eX]) eA k1 (by rw [e11]; exact k2) (by rw [e16]; exact k3) (by rw [eX]; omega) (by rw [eX]; exact hl4)).1
  refine dA_B z (fun r17 q19 y => ?_)
  obtain ⟨y1, y2⟩ := y
  replace y1 : vfr qa q19 := y1
  replace y2 : r17 = 1 ↔ H j = true := y2
  refine dA_if (fun c17 => ?_) (fun c17 => hnext q19 y1 (hno (fun w => c17 (y2.mpr w.2))))
  have hH := y2.mp c17
  have f20 : q19.1 20 2 = x := (y1.1 20 2 (by decide) (by decide)).trans e20
  have fX : dTx q19 x = X := (y1.tx x).trans eX
  have fA : ∀ k : Nat, k < 9 → Int32.toInt (q19.1 21 k) = A k := fun k hk9 => by rw [y1.1 21 k (by decide) (by omega)]; exact eA k hk9
  rw [f20, fX]
  refine dA_G (fun _ => dA_G (fun _ => dA_G (fun _ => dA_G (fun _ => dA_G (fun _ => dA_L (fun v25 e25 => ?_))))))
  refine dA_G (fun _ => dA_G (fun _ => dA_G (fun _ => dA_G (fun _ => dA_L (fun v30 e30 => ?_)))))
  rw [ej] at e25 e30
  have z2 := (k5.2 q19 x v25 v30 v16 (by rw [fX]) fA (by rw [e25]; exact k1) (by rw [e30]; exact k2) (by rw [e16]; exact k3) (by rw [fX]; omega) (by rw [fX]; exact hl4)).2 hk0
  refine dA_B z2 (fun r31 q33 w => ?_)
  obtain ⟨w1, w2⟩ := w
  replace w1 : vfr q19 q33 := w1
  replace w2 : (S j = some (Int32.toInt r31) ∧ q33.1 18 1 = 0) ∨ (S j = none ∧ ¬ q33.1 18 1 = 0) := w2
  refine dA_if (fun c31 => dA_some ⟨(a1.t y1).t w1, ?_⟩) (fun c31 => hnext q33 (y1.t w1) ?_)
  · rcases w2 with ⟨w2, -⟩ | ⟨-, w2⟩
    · show Int32.toInt (mxI 0 (mnI 99 r31)) = _
      rw [a5, TL_s, if_pos ⟨by show Int32.toInt (X.2.2.2.2 0 j) + 1 = 1; omega, hH⟩, w2, mx_cl]
      rfl
    · exact absurd c31 w2
  · rcases w2 with ⟨-, w2⟩ | ⟨w2, -⟩
    · exact absurd w2 c31
    · rw [TL_s, if_pos ⟨by show Int32.toInt (X.2.2.2.2 0 j) + 1 = 1; omega, hH⟩, w2]
      rfl
end X11
