/-! calls that ask the paper: the room they take -/
def PY (nc ns : Nat) (q o : dK) : Prop := (nc = 0 ∧ ns = 0 ∧ o.1 32 103 = q.1 32 103) ∨ (nc = 7 ∧ ns = 189744 ∧ Int32.toInt (q.1 32 103) < Int32.toInt (o.1 32 103))
/-- what stays: all but the machine, the judge, the paper -/
def KP (q o : dK) : Prop := ∀ j k : Nat, (j < 18 ∨ 45 < j) → o.1 j k = q.1 j k
def kpT (S : List Nat) (F : List (Nat × Nat)) : Bool := S.all (fun j => decide (18 ≤ j) && decide (j ≤ 45)) && F.all (fun p => decide (18 ≤ p.1) && decide (p.1 ≤ 45))
theorem kp_fr {S : List Nat} {F : List (Nat × Nat)} {q o : dK} (h : cFr S F q o) (hd : kpT S F = true) : KP q o := by
  unfold kpT at hd
  simp only [Bool.and_eq_true, List.all_eq_true, decide_eq_true_eq] at hd
  intro j k hj
  refine h.1 j k (fun z => ?_) (fun z => ?_)
  · have := hd.1 j z; omega
  · have h2 := hd.2 _ z
    have h3 : 18 ≤ j ∧ j ≤ 45 := h2
    omega
theorem KP.t {q q2 o : dK} (h : KP q q2) (h2 : KP q2 o) : KP q o := fun j k hj => (h2 j k hj).trans (h j k hj)
def PS (nc ns : Nat) (q o : dK) : Prop := TC o ∧ KP q o ∧ o.2.2 = q.2.2 ∧ PY nc ns q o
theorem su_of {z : Nat → Nat → Option (Int32 × dK)} {q : dK} (h : ∀ nc ns : Nat, RH nc ns q → dOk (z nc ns) (fun (o : Int32 × dK) => TC o.2 ∧ (KP q o.2 ∧ o.2.2.2 = q.2.2) ∧ RP q o.2)) : ∃ nc ns : Nat, dOk (z nc ns) (fun (o : Int32 × dK) => PS nc ns q o.2) := by
  by_cases c : RF q
  · exact ⟨0, 0, dOk_mono (h 0 0 (Or.inl c)) (fun o h => ⟨h.1, h.2.1.1, h.2.1.2, Or.inl ⟨rfl, rfl, h.2.2.1 c⟩⟩)⟩
  · exact ⟨7, 189744, dOk_mono (h 7 189744 (Or.inr ⟨Nat.le_refl _, Nat.le_refl _⟩)) (fun o h => ⟨h.1, h.2.1.1, h.2.1.2, Or.inr ⟨rfl, rfl, h.2.2.2 c⟩⟩)⟩
theorem su_0 {z : Nat → Nat → Option (Int32 × dK)} {q : dK} {r : Int32} (hT : TC q) (h : z 0 0 = some (r, q)) : ∃ nc ns : Nat, dOk (z nc ns) (fun (o : Int32 × dK) => PS nc ns q o.2) := ⟨0, 0, (r, q), h, hT, fun _ _ _ => rfl, rfl, Or.inl ⟨rfl, rfl, rfl⟩⟩
/-- from the tower laid out on: the paper's call -/
theorem su_b {S S1 : List Nat} {F F1 : List (Nat × Nat)} {q q6 : dK} {x : Option (Int32 × dK)} (h12 : KP q q6 ∧ q6.2.2 = q.2.2) (hP : RP q q6) (h : dOk x (fun (o : Int32 × dK) => TC o.2 ∧ cFr S F q6 o.2)) (hd : kpT S F = true) (hd2 : rhT S F = true) : dOk (dB x (fun r q9 => some (r, q9))) (fun (o : Int32 × dK) => TC o.2 ∧ (KP q o.2 ∧ o.2.2.2 = q.2.2) ∧ RP q o.2) := by
  refine dOk_B h (fun r q9 h9 => dOk_some ?_)
  obtain ⟨h1, h2⟩ := h9
  replace h1 : TC q9 := h1
  replace h2 : cFr S F q6 q9 := h2
  refine ⟨h1, ⟨h12.1.t (kp_fr h2 hd), h2.2.trans h12.2⟩, ?_⟩
  exact rp_fr (S := []) (F := []) cFr.rf rfl hP h2 hd2
/-- the judge seated, the tower laid out -/
theorem su_s {nc ns : Nat} {q : dK} {k : dK → Option (Int32 × dK)} (hT : TC q) (hR : RH nc ns q) (hk : ∀ q6 : dK, TC q6 → LD q6 → 0 ≤ Int32.toInt (q6.1 32 15) → Int32.toInt (q6.1 32 15) < Int32.toInt (q6.1 32 14) → (KP q q6 ∧ q6.2.2 = q.2.2) → RP q q6 → dOk (k q6) (fun (o : Int32 × dK) => TC o.2 ∧ (KP q o.2 ∧ o.2.2.2 = q.2.2) ∧ RP q o.2)) : dOk (dV (zX9_spread_s0_s20 nc ns q) k) (fun (o : Int32 × dK) => TC o.2 ∧ (KP q o.2 ∧ o.2.2.2 = q.2.2) ∧ RP q o.2) := by
  refine dOk_V (ok_X9_spread_s0_s20 nc ns q hT hR) (fun q6 h6 => ?_)
  obtain ⟨h1, h2, h3, h4, h5, h6⟩ := h6
  exact hk q6 h1 h3 h4 h5 ⟨kp_fr h2 rfl, h2.2⟩ h6
/-- a frame ahead -/
theorem su_f {S : List Nat} {F : List (Nat × Nat)} {q q3 : dK} {x : Option (Int32 × dK)} (hF : cFr S F q q3) (hd : kpT S F = true) (hd2 : rhT S F = true) (h : dOk x (fun (o : Int32 × dK) => TC o.2 ∧ (KP q3 o.2 ∧ o.2.2.2 = q3.2.2) ∧ RP q3 o.2)) : dOk x (fun (o : Int32 × dK) => TC o.2 ∧ (KP q o.2 ∧ o.2.2.2 = q.2.2) ∧ RP q o.2) := by
  refine dOk_mono h (fun o h => ⟨h.1, ⟨(kp_fr hF hd).t h.2.1.1, h.2.1.2.trans hF.2⟩, rp_f0 hF hd2 h.2.2⟩)

theorem co_X9_fewest (nc ns : Nat) (q : dK) (p1 : Int32) (hT : TC q) (hR : RH nc ns q) : dOk (zX9_fewest_s0 nc ns q p1) (fun (o : Int32 × dK) => TC o.2 ∧ (KP q o.2 ∧ o.2.2.2 = q.2.2) ∧ RP q o.2) := by
  unfold zX9_fewest_s0
  refine dOk_V (ok_X9_seated_s0 q hT) (fun q3 h3 => ?_)
  obtain ⟨hT3, hF3⟩ := h3
  replace hT3 : TC q3 := hT3
  replace hF3 : cFr [21] [(20, 2)] q q3 := hF3
  refine su_f hF3 rfl rfl (su_s hT3 (rh_fr hR hF3 rfl) (fun q6 hT6 hL6 hs0 hs1 h12 hP => ?_))
  refine dOk_eq rfl rfl (fun _ _ => ?_) (fun _ _ => ?_)
  · exact su_b (S1 := []) (F1 := []) h12 hP (ok_X3_turnsToOrder_s32 q6 hT6 hL6 hs0 hs1) rfl rfl
  · exact su_b (S1 := []) (F1 := []) h12 hP (ok_X3_turnOfFirstRow_s32 q6 p1 hT6 hL6 hs0 hs1) rfl rfl

theorem co_X9_many (nc ns : Nat) (q : dK) (hT : TC q) (hR : RH nc ns q) : dOk (zX9_many_s0 nc ns q) (fun (o : Int32 × dK) => TC o.2 ∧ (KP q o.2 ∧ o.2.2.2 = q.2.2) ∧ RP q o.2) := by
  unfold zX9_many_s0
  refine dOk_V (ok_X9_seated_s0 q hT) (fun q3 h3 => ?_)
  obtain ⟨hT3, hF3⟩ := h3
  replace hT3 : TC q3 := hT3
  replace hF3 : cFr [21] [(20, 2)] q q3 := hF3
  refine su_f hF3 rfl rfl (su_s hT3 (rh_fr hR hF3 rfl) (fun q6 hT6 hL6 hs0 hs1 h12 hP => ?_))
  exact su_b (S1 := []) (F1 := []) h12 hP (ok_X3_rowsToOrder_s32 q6 hT6 hL6 hs0 hs1) rfl rfl

theorem co_X9_reach (nc ns : Nat) (q : dK) (hT : TC q) (hR : RH nc ns q) : dOk (zX9_reach_s0 nc ns q) (fun (o : Int32 × dK) => TC o.2 ∧ (KP q o.2 ∧ o.2.2.2 = q.2.2) ∧ RP q o.2) := by
  unfold zX9_reach_s0
  refine dOk_V (ok_X9_seated_s0 q hT) (fun q3 h3 => ?_)
  obtain ⟨hT3, hF3⟩ := h3
  replace hT3 : TC q3 := hT3
  replace hF3 : cFr [21] [(20, 2)] q q3 := hF3
  refine su_f hF3 rfl rfl (su_s hT3 (rh_fr hR hF3 rfl) (fun q6 hT6 hL6 hs0 hs1 h12 hP => ?_))
  exact su_b (S1 := []) (F1 := []) h12 hP (ok_X3_towersReached_s32 q6 hT6 hL6 hs0 hs1) rfl rfl

theorem co_X9_cheapest (nc ns : Nat) (q : dK) (hT : TC q) (hR : RH nc ns q) : dOk (zX9_cheapest_s0 nc ns q) (fun (o : Int32 × dK) => TC o.2 ∧ (KP q o.2 ∧ o.2.2.2 = q.2.2) ∧ RP q o.2) := by
  unfold zX9_cheapest_s0
  refine dOk_V (ok_X9_seated_s0 q hT) (fun q3 h3 => ?_)
  obtain ⟨hT3, hF3⟩ := h3
  replace hT3 : TC q3 := hT3
  replace hF3 : cFr [21] [(20, 2)] q q3 := hF3
  refine su_f hF3 rfl rfl (su_s hT3 (rh_fr hR hF3 rfl) (fun q6 hT6 hL6 hs0 hs1 h12 hP => ?_))
  exact su_b (S1 := []) (F1 := []) h12 hP (ok_X3_leastPaid_s32_s20 q6 (q6.1 2 4) hT6 hL6 hs0 hs1) rfl rfl

theorem co_X9_comes (nc ns : Nat) (q : dK) (p1 : Int32) (hT : TC q) (hR : RH nc ns q) : dOk (zX9_comes_s0 nc ns q p1) (fun (o : Int32 × dK) => TC o.2 ∧ (KP q o.2 ∧ o.2.2.2 = q.2.2) ∧ RP q o.2) := by
  unfold zX9_comes_s0
  refine dOk_V (ok_X9_seated_s0 q hT) (fun q3 h3 => ?_)
  obtain ⟨hT3, hF3⟩ := h3
  replace hT3 : TC q3 := hT3
  replace hF3 : cFr [21] [(20, 2)] q q3 := hF3
  refine su_f hF3 rfl rfl (su_s hT3 (rh_fr hR hF3 rfl) (fun q6 hT6 hL6 hs0 hs1 h12 hP => ?_))
  exact su_b (S1 := []) (F1 := []) h12 hP (ok_X3_turnsToNumber_s32 q6 p1 hT6 hL6 hs0 hs1) rfl rfl

theorem su_X9_fewest (q : dK) (p1 : Int32) (hT : TC q) : ∃ nc ns : Nat, dOk (zX9_fewest_s0 nc ns q p1) (fun (o : Int32 × dK) => PS nc ns q o.2) := su_of (z := fun nc ns => zX9_fewest_s0 nc ns q p1) (fun nc ns hR => co_X9_fewest nc ns q p1 hT hR)
theorem su_X9_many (q : dK) (hT : TC q) : ∃ nc ns : Nat, dOk (zX9_many_s0 nc ns q) (fun (o : Int32 × dK) => PS nc ns q o.2) := su_of (z := fun nc ns => zX9_many_s0 nc ns q) (fun nc ns hR => co_X9_many nc ns q hT hR)
theorem su_X9_reach (q : dK) (hT : TC q) : ∃ nc ns : Nat, dOk (zX9_reach_s0 nc ns q) (fun (o : Int32 × dK) => PS nc ns q o.2) := su_of (z := fun nc ns => zX9_reach_s0 nc ns q) (fun nc ns hR => co_X9_reach nc ns q hT hR)
theorem su_X9_cheapest (q : dK) (hT : TC q) : ∃ nc ns : Nat, dOk (zX9_cheapest_s0 nc ns q) (fun (o : Int32 × dK) => PS nc ns q o.2) := su_of (z := fun nc ns => zX9_cheapest_s0 nc ns q) (fun nc ns hR => co_X9_cheapest nc ns q hT hR)
theorem su_X9_comes (q : dK) (p1 : Int32) (hT : TC q) : ∃ nc ns : Nat, dOk (zX9_comes_s0 nc ns q p1) (fun (o : Int32 × dK) => PS nc ns q o.2) := su_of (z := fun nc ns => zX9_comes_s0 nc ns q p1) (fun nc ns hR => co_X9_comes nc ns q p1 hT hR)
theorem su_X9_worst (q : dK) (p1 : Int32) (hT : TC q) : ∃ nc ns : Nat, dOk (zX9_worst_s0 nc ns q p1) (fun (o : Int32 × dK) => PS nc ns q o.2) := by
  by_cases c1 : p1 < 0
  · exact su_0 (z := fun nc ns => zX9_worst_s0 nc ns q p1) (r := -1) hT (by show (if p1 < 0 then _ else _) = _; rw [if_pos c1]; rfl)
  by_cases c2 : p1 ≤ 2
  · refine su_of (z := fun nc ns => zX9_worst_s0 nc ns q p1) (fun nc ns hR => ?_)
    show dOk (zX9_worst_s0 nc ns q p1) _
    unfold zX9_worst_s0
    rw [if_neg c1, if_pos c2]
    refine dOk_V (ok_X9_seated_s0 q hT) (fun q3 h3 => ?_)
    obtain ⟨hT3, hF3⟩ := h3
    replace hT3 : TC q3 := hT3
    replace hF3 : cFr [21] [(20, 2)] q q3 := hF3
    refine su_f hF3 rfl rfl (su_s hT3 (rh_fr hR hF3 rfl) (fun q6 hT6 hL6 hs0 hs1 h12 hP => ?_))
    exact su_b (S1 := []) (F1 := []) h12 hP (ok_X3_worstTowers_s32 q6 p1 hT6 hL6) rfl rfl
  · exact su_0 (z := fun nc ns => zX9_worst_s0 nc ns q p1) (r := -1) hT (by show (if p1 < 0 then _ else _) = _; rw [if_neg c1, if_neg c2]; rfl)

theorem su_X9_view (q : dK) (p1 : Int32) (hT : TC q) : ∃ nc ns : Nat, dOk (zX9_view_s0 nc ns q p1) (fun (o : Int32 × dK) => PS nc ns q o.2) := by
  obtain ⟨⟨r, q0⟩, eh, h0⟩ := ok_X8_has_s2 q p1 hT
  obtain ⟨h1, -⟩ := h0
  replace h1 : q = q0 := Eq.symm h1
  subst h1
  by_cases c1 : r = 0
  · exact su_0 (z := fun nc ns => zX9_view_s0 nc ns q p1) (r := -1) hT (by show dB (zX8_has_s2 q p1) _ = _; rw [eh]; show (if r = 0 then _ else _) = _; rw [if_pos c1])
  · refine su_of (z := fun nc ns => zX9_view_s0 nc ns q p1) (fun nc ns hR => ?_)
    show dOk (dB (zX8_has_s2 q p1) _) _
    rw [eh]
    show dOk (if r = 0 then _ else _) _
    rw [if_neg c1]
    refine dOk_V (ok_X9_seated_s0 q hT) (fun q3 h3 => ?_)
    obtain ⟨hT3, hF3⟩ := h3
    replace hT3 : TC q3 := hT3
    replace hF3 : cFr [21] [(20, 2)] q q3 := hF3
    refine su_f hF3 rfl rfl (su_s hT3 (rh_fr hR hF3 rfl) (fun q6 hT6 hL6 hs0 hs1 h12 hP => ?_))
    exact su_b (S1 := []) (F1 := []) h12 hP (ok_X3_turnsToTop_s32 q6 p1 hT6 hL6 hs0 hs1) rfl rfl

theorem co_X9_compare (nc ns : Nat) (q : dK) (x1 : Int32) (hT : TC q) (hR : RH nc ns q) : dOk (zX9_compare_s0_18 nc ns q x1) (fun (o : Int32 × dK) => TC o.2 ∧ (KP q o.2 ∧ o.2.2.2 = q.2.2) ∧ RP q o.2) := by
  unfold zX9_compare_s0_18
  refine dOk_B (ok_X6_lawAt_s1 q x1 hT) (fun r1 q0 h0 => ?_)
  obtain ⟨h1, h2, h3⟩ := h0
  replace h1 : q = q0 := Eq.symm h1
  replace h2 : 0 ≤ Int32.toInt r1 := h2
  replace h3 : Int32.toInt r1 ≤ (q.2.2.length : Int) := h3
  subst h1
  refine dOk_eq rfl (by decide : Int32.toInt 0 = 0) (fun _ _ => ?_) (fun _ c => ?_)
  · refine dOk_V (ok_X1_seat_s20_n q _ hT) (fun q3 h => ?_)
    obtain ⟨hT3, hF3⟩ := h
    replace hT3 : TC q3 := hT3
    replace hF3 : cFr [21] [(20, 2)] q q3 := hF3
    refine su_f hF3 rfl rfl (su_s hT3 (rh_fr hR hF3 rfl) (fun q6 hT6 hL6 hs0 hs1 h12 hP => ?_))
    exact su_b (S1 := []) (F1 := []) h12 hP (ok_X3_turnsToOrder_s32 q6 hT6 hL6 hs0 hs1) rfl rfl
  · refine dOk_V (ok_X1_seat_s20_l q r1 _ hT c h2 h3) (fun q3 h => ?_)
    obtain ⟨hT3, hF3⟩ := h
    replace hT3 : TC q3 := hT3
    replace hF3 : cFr [21] [(20, 2)] q q3 := hF3
    refine su_f hF3 rfl rfl (su_s hT3 (rh_fr hR hF3 rfl) (fun q6 hT6 hL6 hs0 hs1 h12 hP => ?_))
    exact su_b (S1 := []) (F1 := []) h12 hP (ok_X3_turnsToOrder_s32 q6 hT6 hL6 hs0 hs1) rfl rfl
theorem su_X9_compare (q : dK) (p1 : Int32) (hT : TC q) : ∃ nc ns : Nat, dOk (zX9_compare_s0 nc ns q p1) (fun (o : Int32 × dK) => PS nc ns q o.2) := by
  by_cases c0 : p1 = -1
  · refine su_of (z := fun nc ns => zX9_compare_s0 nc ns q p1) (fun nc ns hR => ?_)
    show dOk (if p1 = -1 then _ else _) _
    rw [if_pos c0]
    exact co_X9_compare nc ns q p1 hT hR
  obtain ⟨⟨r, q0⟩, eh, h0⟩ := ok_X6_isLaw_s1 q p1 hT
  obtain ⟨h1, -⟩ := h0
  replace h1 : q = q0 := Eq.symm h1
  subst h1
  by_cases c1 : r = 0
  · exact su_0 (z := fun nc ns => zX9_compare_s0 nc ns q p1) (r := -1) hT (by show (if p1 = -1 then _ else dB (zX6_isLaw_s1 q p1) _) = _; rw [if_neg c0, eh]; show (if r = 0 then _ else _) = _; rw [if_pos c1])
  · refine su_of (z := fun nc ns => zX9_compare_s0 nc ns q p1) (fun nc ns hR => ?_)
    show dOk (if p1 = -1 then _ else dB (zX6_isLaw_s1 q p1) _) _
    rw [if_neg c0, eh]
    show dOk (if r = 0 then _ else _) _
    rw [if_neg c1]
    exact co_X9_compare nc ns q p1 hT hR
