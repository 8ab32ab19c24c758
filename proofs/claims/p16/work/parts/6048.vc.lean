section
/-! calls that ask the paper: the room they take -/
def PY (nc ns : Nat) (q o : dK) : Prop := (nc = 0 ∧ ns = 0 ∧ o.1 32 103 = q.1 32 103) ∨ (nc = 7 ∧ ns = 189744 ∧ Int32.toInt (q.1 32 103) < Int32.toInt (o.1 32 103))
/-- what stays: all but the machine, the judge, the paper -/
def KP (q o : dK) : Prop := ∀ j k : Nat, (j < 18 ∨ 45 < j) → o.1 j k = q.1 j k
def kpT (S : List Nat) (F : List (Nat × Nat)) : Bool := S.all (fun j => decide (18 ≤ j) && decide (j ≤ 45)) && F.all (fun p => decide (18 ≤ p.1) && decide (p.1 ≤ 45))
theorem kp_fr {S : List Nat} {F : List (Nat × Nat)} {q o : dK} (h : cFr S F q o) (hd : kpT S F = true) : KP q o := by
  unfold kpT at hd
  simp only [Bool.and_eq_true, List.all_eq_true, decide_eq_true_eq] at hd
  intro j k hj
  refine h.1 j k (fun z => ?_) (fun z => ?_)
  · have := hd.1 j z; omega
  · have h2 := hd.2 _ z
    have h3 : 18 ≤ j ∧ j ≤ 45 := h2
    omega
theorem KP.t {q q2 o : dK} (h : KP q q2) (h2 : KP q2 o) : KP q o := fun j k hj => (h2 j k hj).trans (h j k hj)
def PS (nc ns : Nat) (q o : dK) : Prop := TC o ∧ KP q o ∧ o.2.2 = q.2.2 ∧ PY nc ns q o
theorem su_of {z : Nat → Nat → Option (Int32 × dK)} {q : dK} (h : ∀ nc ns : Nat, RH nc ns q → dOk (z nc ns) (fun (o : Int32 × dK) => TC o.2 ∧ (KP q o.2 ∧ o.2.2.2 = q.2.2) ∧ RP q o.2)) : ∃ nc ns : Nat, dOk (z nc ns) (fun (o : Int32 × dK) => PS nc ns q o.2) := by
  by_cases c : RF q
  · exact ⟨0, 0, dOk_mono (h 0 0 (Or.inl c)) (fun o h => ⟨h.1, h.2.1.1, h.2.1.2, Or.inl ⟨rfl, rfl, h.2.2.1 c⟩⟩)⟩
  · exact ⟨7, 189744, dOk_mono (h 7 189744 (Or.inr ⟨Nat.le_refl _, Nat.le_refl _⟩)) (fun o h => ⟨h.1, h.2.1.1, h.2.1.2, Or.inr ⟨rfl, rfl, h.2.2.2 c⟩⟩)⟩
theorem su_0 {z : Nat → Nat → Option (Int32 × dK)} {q : dK} {r : Int32} (hT : TC q) (h : z 0 0 = some (r, q)) : ∃ nc ns : Nat, dOk (z nc ns) (fun (o : Int32 × dK) => PS nc ns q o.2) := ⟨0, 0, (r, q), h, hT, fun _ _ _ => rfl, rfl, Or.inl ⟨rfl, rfl, rfl⟩⟩
/-- from the tower laid out on: the paper's call -/
theorem su_b {S S1 : List Nat} {F F1 : List (Nat × Nat)} {q q6 : dK} {x : Option (Int32 × dK)} (h12 : KP q q6 ∧ q6.2.2 = q.2.2) (hP : RP q q6) (h : dOk x (fun (o : Int32 × dK) => TC o.2 ∧ cFr S F q6 o.2)) (hd : kpT S F = true) (hd2 : rhT S F = true) : dOk (dB x (fun r q9 => some (r, q9))) (fun (o : Int32 × dK) => TC o.2 ∧ (KP q o.2 ∧ o.2.2.2 = q.2.2) ∧ RP q o.2) := by
  refine dOk_B h (fun r q9 h9 => dOk_some ?_)
  obtain ⟨h1, h2⟩ := h9
  replace h1 : TC q9 := h1
  replace h2 : cFr S F q6 q9 := h2
  refine ⟨h1, ⟨h12.1.t (kp_fr h2 hd), h2.2.trans h12.2⟩, ?_⟩
  exact rp_fr (S := []) (F := []) cFr.rf rfl hP h2 hd2
/-- the judge seated, the tower laid out -/
theorem su_s {nc ns : Nat} {q : dK} {k : dK → Option (Int32 × dK)} (hT : TC q) (hR : RH nc ns q) (hk : ∀ q6 : dK, TC q6 → LD q6 → 0 ≤ Int32.toInt (q6.1 32 15) → Int32.toInt (q6.1 32 15) < Int32.toInt (q6.1 32 14) → (KP q q6 ∧ q6.2.2 = q.2.2) → RP q q6 → dOk (k q6) (fun (o : Int32 × dK) => TC o.2 ∧ (KP q o.2 ∧ o.2.2.2 = q.2.2) ∧ RP q o.2)) : dOk (dV (zX9_spread_s0_s20 nc ns q) k) (fun (o : Int32 × dK) => TC o.2 ∧ (KP q o.2 ∧ o.2.2.2 = q.2.2) ∧ RP q o.2) := by
  refine dOk_V (ok_X9_spread_s0_s20 nc ns q hT hR) (fun q6 h6 => ?_)
  obtain ⟨h1, h2, h3, h4, h5, h6⟩ := h6
  exact hk q6 h1 h3 h4 h5 ⟨kp_fr h2 rfl, h2.2⟩ h6
/-- a frame ahead -/
theorem su_f {S : List Nat} {F : List (Nat × Nat)} {q q3 : dK} {x : Option (Int32 × dK)} (hF : cFr S F q q3) (hd : kpT S F = true) (hd2 : rhT S F = true) (h : dOk x (fun (o : Int32 × dK) => TC o.2 ∧ (KP q3 o.2 ∧ o.2.2.2 = q3.2.2) ∧ RP q3 o.2)) : dOk x (fun (o : Int32 × dK) => TC o.2 ∧ (KP q o.2 ∧ o.2.2.2 = q.2.2) ∧ RP q o.2) := by
  refine dOk_mono h (fun o h => ⟨h.1, ⟨(kp_fr hF hd).t h.2.1.1, h.2.1.2.trans hF.2⟩, rp_f0 hF hd2 h.2.2⟩)

theorem co_X9_fewest (nc ns : Nat) (q : dK) (p1 : Int32) (hT : TC q) (hR : RH nc ns q) : dOk (zX9_fewest_s0 nc ns q p1) (fun (o : Int32 × dK) => TC o.2 ∧ (KP q o.2 ∧ o.2.2.2 = q.2.2) ∧ RP q o.2) := by
  unfold zX9_fewest_s0
  refine dOk_V (ok_X9_seated_s0 q hT) (fun q3 h3 => ?_)
  obtain ⟨hT3, hF3⟩ := h3
  replace hT3 : TC q3 := hT3
  replace hF3 : cFr [21] [(20, 2)] q q3 := hF3
  refine su_f hF3 rfl rfl (su_s hT3 (rh_fr hR hF3 rfl) (fun q6 hT6 hL6 hs0 hs1 h12 hP => ?_))
  refine dOk_eq rfl rfl (fun _ _ => ?_) (fun _ _ => ?_)
  · exact su_b (S1 := []) (F1 := []) h12 hP (ok_X3_turnsToOrder_s32 q6 hT6 hL6 hs0 hs1) rfl rfl
  · exact su_b (S1 := []) (F1 := []) h12 hP (ok_X3_turnOfFirstRow_s32 q6 p1 hT6 hL6 hs0 hs1) rfl rfl

theorem co_X9_many (nc ns : Nat) (q : dK) (hT : TC q) (hR : RH nc ns q) : dOk (zX9_many_s0 nc ns q) (fun (o : Int32 × dK) => TC o.2 ∧ (KP q o.2 ∧ o.2.2.2 = q.2.2) ∧ RP q o.2) := by
  unfold zX9_many_s0
  refine dOk_V (ok_X9_seated_s0 q hT) (fun q3 h3 => ?_)
  obtain ⟨hT3, hF3⟩ := h3
  replace hT3 : TC q3 := hT3
  replace hF3 : cFr [21] [(20, 2)] q q3 := hF3
  refine su_f hF3 rfl rfl (su_s hT3 (rh_fr hR hF3 rfl) (fun q6 hT6 hL6 hs0 hs1 h12 hP => ?_))
  exact su_b (S1 := []) (F1 := []) h12 hP (ok_X3_rowsToOrder_s32 q6 hT6 hL6 hs0 hs1) rfl rfl

theorem co_X9_reach (nc ns : Nat) (q : dK) (hT : TC q) (hR : RH nc ns q) : dOk (zX9_reach_s0 nc ns q) (fun (o : Int32 × dK) => TC o.2 ∧ (KP q o.2 ∧ o.2.2.2 = q.2.2) ∧ RP q o.2) := by
  unfold zX9_reach_s0
  refine dOk_V (ok_X9_seated_s0 q hT) (fun q3 h3 => ?_)
  obtain ⟨hT3, hF3⟩ := h3
  replace hT3 : TC q3 := hT3
  replace hF3 : cFr [21] [(20, 2)] q q3 := hF3
  refine su_f hF3 rfl rfl (su_s hT3 (rh_fr hR hF3 rfl) (fun q6 hT6 hL6 hs0 hs1 h12 hP => ?_))
  exact su_b (S1 := []) (F1 := []) h12 hP (ok_X3_towersReached_s32 q6 hT6 hL6 hs0 hs1) rfl rfl

theorem co_X9_cheapest (nc ns : Nat) (q : dK) (hT : TC q) (hR : RH nc ns q) : dOk (zX9_cheapest_s0 nc ns q) (fun (o : Int32 × dK) => TC o.2 ∧ (KP q o.2 ∧ o.2.2.2 = q.2.2) ∧ RP q o.2) := by
  unfold zX9_cheapest_s0
  refine dOk_V (ok_X9_seated_s0 q hT) (fun q3 h3 => ?_)
  obtain ⟨hT3, hF3⟩ := h3
  replace hT3 : TC q3 := hT3
  replace hF3 : cFr [21] [(20, 2)] q q3 := hF3
  refine su_f hF3 rfl rfl (su_s hT3 (rh_fr hR hF3 rfl) (fun q6 hT6 hL6 hs0 hs1 h12 hP => ?_))
  exact su_b (S1 := []) (F1 := []) h12 hP (ok_X3_leastPaid_s32_s20 q6 (q6.1 2 4) hT6 hL6 hs0 hs1) rfl rfl

theorem co_X9_comes (nc ns : Nat) (q : dK) (p1 : Int32) (hT : TC q) (hR : RH nc ns q) : dOk (zX9_comes_s0 nc ns q p1) (fun (o : Int32 × dK) => TC o.2 ∧ (KP q o.2 ∧ o.2.2.2 = q.2.2) ∧ RP q o.2) := by
  unfold zX9_comes_s0
  refine dOk_V (ok_X9_seated_s0 q hT) (fun q3 h3 => ?_)
  obtain ⟨hT3, hF3⟩ := h3
  replace hT3 : TC q3 := hT3
  replace hF3 : cFr [21] [(20, 2)] q q3 := hF3
  refine su_f hF3 rfl rfl (su_s hT3 (rh_fr hR hF3 rfl) (fun q6 hT6 hL6 hs0 hs1 h12 hP => ?_))
  exact su_b (S1 := []) (F1 := []) h12 hP (ok_X3_turnsToNumber_s32 q6 p1 hT6 hL6 hs0 hs1) rfl rfl

theorem su_X9_fewest (q : dK) (p1 : Int32) (hT : TC q) : ∃ nc ns : Nat, dOk (zX9_fewest_s0 nc ns q p1) (fun (o : Int32 × dK) => PS nc ns q o.2) := su_of (z := fun nc ns => zX9_fewest_s0 nc ns q p1) (fun nc ns hR => co_X9_fewest nc ns q p1 hT hR)
theorem su_X9_many (q : dK) (hT : TC q) : ∃ nc ns : Nat, dOk (zX9_many_s0 nc ns q) (fun (o : Int32 × dK) => PS nc ns q o.2) := su_of (z := fun nc ns => zX9_many_s0 nc ns q) (fun nc ns hR => co_X9_many nc ns q hT hR)
theorem su_X9_reach (q : dK) (hT : TC q) : ∃ nc ns : Nat, dOk (zX9_reach_s0 nc ns q) (fun (o : Int32 × dK) => PS nc ns q o.2) := su_of (z := fun nc ns => zX9_reach_s0 nc ns q) (fun nc ns hR => co_X9_reach nc ns q hT hR)
theorem su_X9_cheapest (q : dK) (hT : TC q) : ∃ nc ns : Nat, dOk (zX9_cheapest_s0 nc ns q) (fun (o : Int32 × dK) => PS nc ns q o.2) := su_of (z := fun nc ns => zX9_cheapest_s0 nc ns q) (fun nc ns hR => co_X9_cheapest nc ns q hT hR)
theorem su_X9_comes (q : dK) (p1 : Int32) (hT : TC q) : ∃ nc ns : Nat, dOk (zX9_comes_s0 nc ns q p1) (fun (o : Int32 × dK) => PS nc ns q o.2) := su_of (z := fun nc ns => zX9_comes_s0 nc ns q p1) (fun nc ns hR => co_X9_comes nc ns q p1 hT hR)
theorem su_X9_worst (q : dK) (p1 : Int32) (hT : TC q) : ∃ nc ns : Nat, dOk (zX9_worst_s0 nc ns q p1) (fun (o : Int32 × dK) => PS nc ns q o.2) := by
  by_cases c1 : p1 < 0
  · exact su_0 (z := fun nc ns => zX9_worst_s0 nc ns q p1) (r := -1) hT (by show (if p1 < 0 then _ else _) = _; rw [if_pos c1]; rfl)
  by_cases c2 : p1 ≤ 2
  · refine su_of (z := fun nc ns => zX9_worst_s0 nc ns q p1) (fun nc ns hR => ?_)
    show dOk (zX9_worst_s0 nc ns q p1) _
    unfold zX9_worst_s0
    rw [if_neg c1, if_pos c2]
    refine dOk_V (ok_X9_seated_s0 q hT) (fun q3 h3 => ?_)
    obtain ⟨hT3, hF3⟩ := h3
    replace hT3 : TC q3 := hT3
    replace hF3 : cFr [21] [(20, 2)] q q3 := hF3
    refine su_f hF3 rfl rfl (su_s hT3 (rh_fr hR hF3 rfl) (fun q6 hT6 hL6 hs0 hs1 h12 hP => ?_))
    exact su_b (S1 := []) (F1 := []) h12 hP (ok_X3_worstTowers_s32 q6 p1 hT6 hL6) rfl rfl
  · exact su_0 (z := fun nc ns => zX9_worst_s0 nc ns q p1) (r := -1) hT (by show (if p1 < 0 then _ else _) = _; rw [if_neg c1, if_neg c2]; rfl)

theorem su_X9_view (q : dK) (p1 : Int32) (hT : TC q) : ∃ nc ns : Nat, dOk (zX9_view_s0 nc ns q p1) (fun (o : Int32 × dK) => PS nc ns q o.2) := by
  obtain ⟨⟨r, q0⟩, eh, h0⟩ := ok_X8_has_s2 q p1 hT
  obtain ⟨h1, -⟩ := h0
  replace h1 : q = q0 := Eq.symm h1
  subst h1
  by_cases c1 : r = 0
  · exact su_0 (z := fun nc ns => zX9_view_s0 nc ns q p1) (r := -1) hT (by show dB (zX8_has_s2 q p1) _ = _; rw [eh]; show (if r = 0 then _ else _) = _; rw [if_pos c1])
  · refine su_of (z := fun nc ns => zX9_view_s0 nc ns q p1) (fun nc ns hR => ?_)
    show dOk (dB (zX8_has_s2 q p1) _) _
    rw [eh]
    show dOk (if r = 0 then _ else _) _
    rw [if_neg c1]
    refine dOk_V (ok_X9_seated_s0 q hT) (fun q3 h3 => ?_)
    obtain ⟨hT3, hF3⟩ := h3
    replace hT3 : TC q3 := hT3
    replace hF3 : cFr [21] [(20, 2)] q q3 := hF3
    refine su_f hF3 rfl rfl (su_s hT3 (rh_fr hR hF3 rfl) (fun q6 hT6 hL6 hs0 hs1 h12 hP => ?_))
    exact su_b (S1 := []) (F1 := []) h12 hP (ok_X3_turnsToTop_s32 q6 p1 hT6 hL6 hs0 hs1) rfl rfl

theorem co_X9_compare (nc ns : Nat) (q : dK) (x1 : Int32) (hT : TC q) (hR : RH nc ns q) : dOk (zX9_compare_s0_18 nc ns q x1) (fun (o : Int32 × dK) => TC o.2 ∧ (KP q o.2 ∧ o.2.2.2 = q.2.2) ∧ RP q o.2) := by
  unfold zX9_compare_s0_18
  refine dOk_B (ok_X6_lawAt_s1 q x1 hT) (fun r1 q0 h0 => ?_)
  obtain ⟨h1, h2, h3⟩ := h0
  replace h1 : q = q0 := Eq.symm h1
  replace h2 : 0 ≤ Int32.toInt r1 := h2
  replace h3 : Int32.toInt r1 ≤ (q.2.2.length : Int) := h3
  subst h1
  refine dOk_eq rfl (by decide : Int32.toInt 0 = 0) (fun _ _ => ?_) (fun _ c => ?_)
  · refine dOk_V (ok_X1_seat_s20_n q _ hT) (fun q3 h => ?_)
    obtain ⟨hT3, hF3⟩ := h
    replace hT3 : TC q3 := hT3
    replace hF3 : cFr [21] [(20, 2)] q q3 := hF3
    refine su_f hF3 rfl rfl (su_s hT3 (rh_fr hR hF3 rfl) (fun q6 hT6 hL6 hs0 hs1 h12 hP => ?_))
    exact su_b (S1 := []) (F1 := []) h12 hP (ok_X3_turnsToOrder_s32 q6 hT6 hL6 hs0 hs1) rfl rfl
  · refine dOk_V (ok_X1_seat_s20_l q r1 _ hT c h2 h3) (fun q3 h => ?_)
    obtain ⟨hT3, hF3⟩ := h
    replace hT3 : TC q3 := hT3
    replace hF3 : cFr [21] [(20, 2)] q q3 := hF3
    refine su_f hF3 rfl rfl (su_s hT3 (rh_fr hR hF3 rfl) (fun q6 hT6 hL6 hs0 hs1 h12 hP => ?_))
    exact su_b (S1 := []) (F1 := []) h12 hP (ok_X3_turnsToOrder_s32 q6 hT6 hL6 hs0 hs1) rfl rfl
theorem su_X9_compare (q : dK) (p1 : Int32) (hT : TC q) : ∃ nc ns : Nat, dOk (zX9_compare_s0 nc ns q p1) (fun (o : Int32 × dK) => PS nc ns q o.2) := by
  by_cases c0 : p1 = -1
  · refine su_of (z := fun nc ns => zX9_compare_s0 nc ns q p1) (fun nc ns hR => ?_)
    show dOk (if p1 = -1 then _ else _) _
    rw [if_pos c0]
    exact co_X9_compare nc ns q p1 hT hR
  obtain ⟨⟨r, q0⟩, eh, h0⟩ := ok_X6_isLaw_s1 q p1 hT
  obtain ⟨h1, -⟩ := h0
  replace h1 : q = q0 := Eq.symm h1
  subst h1
  by_cases c1 : r = 0
  · exact su_0 (z := fun nc ns => zX9_compare_s0 nc ns q p1) (r := -1) hT (by show (if p1 = -1 then _ else dB (zX6_isLaw_s1 q p1) _) = _; rw [if_neg c0, eh]; show (if r = 0 then _ else _) = _; rw [if_pos c1])
  · refine su_of (z := fun nc ns => zX9_compare_s0 nc ns q p1) (fun nc ns hR => ?_)
    show dOk (if p1 = -1 then _ else dB (zX6_isLaw_s1 q p1) _) _
    rw [if_neg c0, eh]
    show dOk (if r = 0 then _ else _) _
    rw [if_neg c1]
    exact co_X9_compare nc ns q p1 hT hR
end
section
/-! a law kept: the draft's copy -/
def NT (q q' : dK) (t : dT) : Prop := q'.1 = q.1 ∧ q'.2.1 = q.2.1 ∧ q'.2.2 = q.2.2 ++ [t]
def NX (q : dK) (t : dT) : Prop := t.2.2.1 = q.1 25 6 ∧ t.2.2.2.1 = q.1 25 7 ∧ ∀ j i : Nat, 2 ≤ j → 0 ≤ (t.2.2.2.2 j i).toInt ∧ (j = 5 → cOp (t.2.2.2.2 j i))
theorem nt_c {n : Nat} (h : n < 1000) : Int32.toNatClampNeg (Int32.ofNat (n + 1)) = n + 1 := nI_clamp (n := n + 1) (by omega)
theorem nt_x {q q' : dK} {t : dT} {c : Int32} (hc : Int32.ofNat (q.2.2.length + 1) = c) (h : NT q q' t) (hL : q.2.2.length < 1000) : dLi c = q.2.2.length ∧ q'.2.2[dLi c]? = some t ∧ q'.2.2.length = q.2.2.length + 1 := by
  have e : dLi c = q.2.2.length := by rw [← hc]; exact dLi_of hL
  refine ⟨e, ?_, ?_⟩
  · rw [e, h.2.2, List.getElem?_append_right (Nat.le_refl _), Nat.sub_self]; rfl
  · rw [h.2.2, List.length_append]; rfl
theorem nt_g {q q' : dK} {t : dT} {c : Int32} (hc : Int32.ofNat (q.2.2.length + 1) = c) (h : NT q q' t) (hL : q.2.2.length < 1000) : dlg q' c = true ∧ dTx q' c = t := by
  obtain ⟨h1, h2, h3⟩ := nt_x hc h hL
  refine ⟨decide_eq_true ⟨fun z => ?_, by rw [h1, h3]; omega⟩, ?_⟩
  · have e := nt_c hL
    rw [hc, z] at e
    exact absurd e (by show ¬ 0 = q.2.2.length + 1; omega)
  · unfold dTx
    rw [h2]
theorem nt_m {q q' : dK} {t : dT} {c : Int32} (hc : Int32.ofNat (q.2.2.length + 1) = c) (h : NT q q' t) (hL : q.2.2.length < 1000) (g : dT → dT) : NT q (ctm q' c g) (g t) := by
  refine ⟨h.1, h.2.1, ?_⟩
  show q'.2.2.set (dLi c) (g (dTx q' c)) = _
  rw [(nt_g hc h hL).2, (nt_x hc h hL).1, h.2.2]
  exact set_apR q.2.2 [t] 0 (g t)
theorem nt_e {q q' q2 : dK} {t : dT} (h : NT q q' t) (e : q2 = q') : NT q q2 t := by rw [e]; exact h
theorem nx_a {q : dK} {t : dT} (h : NX q t) {j i : Nat} {v : Int32} (hj : ¬ j = 5) (hv : 2 ≤ j → 0 ≤ v.toInt) : NX q (t.1, t.2.1, t.2.2.1, t.2.2.2.1, fun a => if a = j then upd (t.2.2.2.2 j) i v else t.2.2.2.2 a) := by
  refine ⟨h.1, h.2.1, fun a b ha => ?_⟩
  show 0 ≤ ((if a = j then upd (t.2.2.2.2 j) i v else t.2.2.2.2 a) b).toInt ∧ (a = 5 → cOp ((if a = j then upd (t.2.2.2.2 j) i v else t.2.2.2.2 a) b))
  by_cases c : a = j
  · rw [if_pos c]
    refine ⟨?_, fun z => absurd (c.symm.trans z) hj⟩
    show 0 ≤ (if b = i then v else t.2.2.2.2 j b).toInt
    by_cases c2 : b = i
    · rw [if_pos c2]; exact hv (by omega)
    · rw [if_neg c2]; exact (h.2.2 j b (by omega)).1
  · rw [if_neg c]; exact h.2.2 a b ha
theorem tc_new {q q' : dK} {t : dT} (hT : TC q) (N : NT q q' t) (X : NX q t) (h1 : t.1 = q.1 25 6) (h2 : t.2.1 = q.1 25 7) : TC q' := by
  obtain ⟨hE, hC, hP, hL, hTx⟩ := hT
  have hl : q'.2.2.length = q.2.2.length + 1 := by rw [N.2.2, List.length_append]; rfl
  have r6 := hE 25 6
  have r7 := hE 25 7
  refine ⟨by unfold CE; rw [N.1]; exact hE, ?_, by unfold PL; rw [N.1]; exact hP, by unfold CL; rw [N.2.1]; exact hL, ?_⟩
  · unfold CC
    rw [N.1, hl]
    refine ⟨by have := hC.1; omega, fun i => ?_⟩
    obtain ⟨c1, c2, c3, c4, c5⟩ := hC.2 i
    exact ⟨by omega, by omega, by omega, c4, c5⟩
  · rw [N.2.2]
    intro t2 ht
    rcases List.mem_append.mp ht with h | h
    · exact hTx t2 h
    · rw [List.mem_singleton] at h
      subst h
      refine ⟨by rw [h1]; exact r6.1, by rw [h1]; exact r6.2, by rw [h2]; exact r7.1, by rw [h2]; exact r7.2, by rw [X.1, h1], by rw [X.2.1, h2], X.2.2⟩
theorem ck_o {q : dK} {c : Int32} (h0 : 0 ≤ c.toInt) (h1 : c.toInt ≤ (q.2.2.length : Int)) : cok q c := by
  by_cases z : c = 0
  · exact Or.inl z
  · refine Or.inr ?_
    have e : Int32.toNatClampNeg c = c.toInt.toNat := rfl
    have h2 : ¬ c.toInt = 0 := fun y => z (Int32.toInt_inj.mp y)
    unfold dLi
    omega
theorem ok_X7_copyOfIt_s25 (ns : Nat) (q : dK) (hT : TC q) (hn : 468 ≤ ns) (hL : q.2.2.length < 1000) : dOk (zX7_copyOfIt_s25 ns q) (fun (o : Int32 × dK) => Int32.ofNat (q.2.2.length + 1) = o.1 ∧ ∃ t : dT, NT q o.2 t ∧ NX q t ∧ t.1 = q.1 25 6 ∧ t.2.1 = q.1 25 7) := by
  have f6 : 0 ≤ Int32.toInt (q.1 25 6) ∧ Int32.toInt (q.1 25 6) ≤ 12 := rg_25_6 hT
  have f7 : 0 ≤ Int32.toInt (q.1 25 7) ∧ Int32.toInt (q.1 25 7) ≤ 400 := rg_25_7 hT
  have n6 := cl_eq f6.1
  have n7 := cl_eq f7.1
  have hdl : dlok q := ⟨hL, ck_o (hT.1 20 2).1 hT.2.1.1, fun i _ => ⟨ck_o (hT.1 7 i).1 (hT.2.1.2 i).1, ck_o (hT.1 55 i).1 (hT.2.1.2 i).2.1, ck_o (hT.1 62 i).1 (hT.2.1.2 i).2.2.1⟩⟩
  unfold zX7_copyOfIt_s25
  refine dOk_G (decide_eq_true ⟨nl0 f6.1, nl0 f7.1, by omega, by omega, by omega, by omega⟩) ?_
  refine dOk_G (dlokB_i hdl) (dOk_L (fun q2 e2 => ?_))
  obtain ⟨c, hc⟩ : ∃ y : Int32, Int32.ofNat (q.2.2.length + 1) = y := ⟨_, rfl⟩
  rw [hc]
  have N2 : NT q q2 (0, 0, q.1 25 6, q.1 25 7, fun _ _ => 0) := by rw [e2]; exact ⟨rfl, rfl, rfl⟩
  refine dOk_G (nt_g hc N2 hL).1 (dOk_L (fun q4 e4 => ?_))
  have N4 : NT q q4 (q.1 25 6, 0, q.1 25 6, q.1 25 7, fun _ _ => 0) := by
    rw [e4, show q2.1 25 6 = q.1 25 6 by rw [N2.1]]
    exact nt_m hc N2 hL (fun t => (q.1 25 6, t.2))
  refine dOk_G (nt_g hc N4 hL).1 (dOk_L (fun q6 e6 => ?_))
  have N6 : NT q q6 (q.1 25 6, q.1 25 7, q.1 25 6, q.1 25 7, fun _ _ => 0) := by
    rw [e6, show q4.1 25 7 = q.1 25 7 by rw [N4.1]]
    exact nt_m hc N4 hL (fun t => (t.1, q.1 25 7, t.2.2))
  have X6 : NX q (q.1 25 6, q.1 25 7, q.1 25 6, q.1 25 7, fun _ _ => 0) := ⟨rfl, rfl, fun j i _ => ⟨by show 0 ≤ Int32.toInt 0; decide, fun _ => by show Int32.toInt (0 &&& 15) ≤ 12; decide⟩⟩
  clear e2 N2 e4 N4 e6
  unfold zX7_copyOfIt_s25_34
  refine dFix_ok (fun (a : dK × Int32 × Int32) => (∃ t : dT, NT q a.1 t ∧ NX q t ∧ t.1 = q.1 25 6 ∧ t.2.1 = q.1 25 7) ∧ a.2.1 = c ∧ 0 ≤ a.2.2.toInt ∧ a.2.2.toInt ≤ 12) (fun (a : dK × Int32 × Int32) => (12 - a.2.2.toInt).toNat) ?_ _ ⟨⟨_, N6, X6, rfl, rfl⟩, rfl, by show 0 ≤ Int32.toInt 0; decide, by show Int32.toInt 0 ≤ 12; decide⟩ _ (dF_gt (by show (12 - Int32.toInt 0).toNat < 1000000000000; decide))
  clear N6 X6
  intro a ha k34 hk34
  obtain ⟨qa, x1, x2⟩ := a
  obtain ⟨⟨t, N, X, h1, h2⟩, a2, a3, a4⟩ := ha
  replace N : NT q qa t := N
  replace a2 : c = x1 := Eq.symm a2
  replace a3 : 0 ≤ x2.toInt := a3
  replace a4 : x2.toInt ≤ 12 := a4
  subst a2
  obtain ⟨g, gt⟩ := nt_g hc N hL
  show dOk (zX7_copyOfIt_s25_34b ns (fun q x1 x2 => k34 (q, x1, x2)) qa c x2) _
  unfold zX7_copyOfIt_s25_34b
  have m6 : qa.1 25 6 = q.1 25 6 := by rw [N.1]
  have m7 : qa.1 25 7 = q.1 25 7 := by rw [N.1]
  refine dOk_le (by rw [m6]) rfl (fun _ => ?_) (fun cx => ?_)
  · refine dOk_G g (dOk_G g (dOk_G (decide_eq_true ?_) (dOk_L (fun q4 e4 => dOk_some ⟨rfl, ?_⟩))))
    · rw [gt, m7, X.2.1]
      exact ⟨nl0 f7.1, by omega, by omega⟩
    · have N5 := nt_m hc N hL (fun t => (t.1, t.2.1, t.2.2.1, t.2.2.2.1, fun a => if a = 5 then va_cpy (qa.1 31) (t.2.2.2.2 5) 0 0 (Int32.toNatClampNeg (qa.1 25 7)) else t.2.2.2.2 a))
      replace N5 := nt_e (q2 := q4) N5 e4
      refine ⟨_, N5, ⟨X.1, X.2.1, fun j i hj => ?_⟩, h1, h2⟩
      show 0 ≤ ((if j = 5 then va_cpy (qa.1 31) (t.2.2.2.2 5) 0 0 (Int32.toNatClampNeg (qa.1 25 7)) else t.2.2.2.2 j) i).toInt ∧ (j = 5 → cOp ((if j = 5 then va_cpy (qa.1 31) (t.2.2.2.2 5) 0 0 (Int32.toNatClampNeg (qa.1 25 7)) else t.2.2.2.2 j) i))
      by_cases c5 : j = 5
      · rw [if_pos c5, N.1]
        unfold va_cpy
        split
        · exact ⟨(hT.1 31 _).1, fun _ => (hT.2.1.2 _).2.2.2.1⟩
        · have h5 := X.2.2 5 i (by decide)
          exact ⟨h5.1, fun _ => h5.2 rfl⟩
      · rw [if_neg c5]; exact X.2.2 j i hj
  · have nx := cl_eq a3
    have t2 : Int32.toInt (x2 + 1) = x2.toInt + 1 := ti_add rfl (by decide) (by omega) (by omega)
    have hx : ∀ t : dT, NX q t → Int32.toInt x2 < ((Int32.toNatClampNeg t.2.2.1 : Nat) : Int) := fun t X => by rw [X.1]; omega
    refine dOk_G g (dOk_G (dg_ok a3 (by omega)) (dOk_L (fun v7 e7 => dOk_G g (dOk_G (dg_ok a3 (by rw [gt]; exact hx t X)) (dOk_L (fun q10 e10 => ?_))))))
    have N10 := nt_m hc N hL (fun t => (t.1, t.2.1, t.2.2.1, t.2.2.2.1, fun a => if a = 0 then upd (t.2.2.2.2 0) (Int32.toNatClampNeg x2) v7 else t.2.2.2.2 a))
    have X10 := nx_a X (j := 0) (i := Int32.toNatClampNeg x2) (v := v7) (by decide) (fun z => absurd z (by decide))
    replace N10 := nt_e (q2 := q10) N10 e10
    obtain ⟨g10, gt10⟩ := nt_g hc N10 hL
    refine dOk_G g10 (dOk_G (dg_ok a3 (by omega)) (dOk_L (fun v13 e13 => dOk_G g10 (dOk_G (dg_ok a3 (by rw [gt10]; exact hx t X)) (dOk_L (fun q16 e16 => ?_))))))
    have N16 := nt_m hc N10 hL (fun t => (t.1, t.2.1, t.2.2.1, t.2.2.2.1, fun a => if a = 1 then upd (t.2.2.2.2 1) (Int32.toNatClampNeg x2) v13 else t.2.2.2.2 a))
    have X16 := nx_a X10 (j := 1) (i := Int32.toNatClampNeg x2) (v := v13) (by decide) (fun z => absurd z (by decide))
    replace N16 := nt_e (q2 := q16) N16 e16
    obtain ⟨g16, gt16⟩ := nt_g hc N16 hL
    refine dOk_G g16 (dOk_G (dg_ok a3 (by omega)) (dOk_L (fun v19 e19 => dOk_G g16 (dOk_G (dg_ok a3 (by rw [gt16]; exact hx t X)) (dOk_L (fun q22 e22 => ?_))))))
    have N22 := nt_m hc N16 hL (fun t => (t.1, t.2.1, t.2.2.1, t.2.2.2.1, fun a => if a = 2 then upd (t.2.2.2.2 2) (Int32.toNatClampNeg x2) v19 else t.2.2.2.2 a))
    have X22 := nx_a X16 (j := 2) (i := Int32.toNatClampNeg x2) (v := v19) (by decide) (fun _ => by rw [e19, N16.1]; exact (hT.1 28 _).1)
    replace N22 := nt_e (q2 := q22) N22 e22
    obtain ⟨g22, gt22⟩ := nt_g hc N22 hL
    refine dOk_G g22 (dOk_G (dg_ok a3 (by omega)) (dOk_L (fun v25 e25 => dOk_G g22 (dOk_G (dg_ok a3 (by rw [gt22]; exact hx t X)) (dOk_L (fun q28 e28 => ?_))))))
    have N28 := nt_m hc N22 hL (fun t => (t.1, t.2.1, t.2.2.1, t.2.2.2.1, fun a => if a = 3 then upd (t.2.2.2.2 3) (Int32.toNatClampNeg x2) v25 else t.2.2.2.2 a))
    have X28 := nx_a X22 (j := 3) (i := Int32.toNatClampNeg x2) (v := v25) (by decide) (fun _ => by rw [e25, N22.1]; exact (hT.1 29 _).1)
    replace N28 := nt_e (q2 := q28) N28 e28
    obtain ⟨g28, gt28⟩ := nt_g hc N28 hL
    refine dOk_G g28 (dOk_G (dg_ok a3 (by omega)) (dOk_L (fun v31 e31 => dOk_G g28 (dOk_G (dg_ok a3 (by rw [gt28]; exact hx t X)) (dOk_L (fun q34 e34 => ?_))))))
    have N34 := nt_m hc N28 hL (fun t => (t.1, t.2.1, t.2.2.1, t.2.2.2.1, fun a => if a = 4 then upd (t.2.2.2.2 4) (Int32.toNatClampNeg x2) v31 else t.2.2.2.2 a))
    have X34 := nx_a X28 (j := 4) (i := Int32.toNatClampNeg x2) (v := v31) (by decide) (fun _ => by rw [e31, N28.1]; exact (hT.1 30 _).1)
    replace N34 := nt_e (q2 := q34) N34 e34
    exact hk34 (q34, c, x2 + 1) ⟨⟨_, N34, X34, h1, h2⟩, rfl, by show 0 ≤ Int32.toInt (x2 + 1); omega, by show Int32.toInt (x2 + 1) ≤ 12; omega⟩ (by show (12 - Int32.toInt (x2 + 1)).toNat < (12 - Int32.toInt x2).toNat; omega)
/-- what a law's reading leaves as it was -/
def KL (q o : dK) : Prop := ∀ j k : Nat, ((1 ≤ j ∧ j ≤ 17 ∧ ¬ j = 7 ∧ ¬ (j = 1 ∧ k = 8)) ∨ 48 < j) → o.1 j k = q.1 j k
def klT (S : List Nat) (F : List (Nat × Nat)) : Bool := S.all (fun j => decide (j = 0 ∨ j = 7 ∨ (18 ≤ j ∧ j ≤ 48))) && F.all (fun p => decide (p.1 = 0 ∨ p.1 = 7 ∨ (18 ≤ p.1 ∧ p.1 ≤ 48) ∨ p = (1, 8)))
theorem kl_fr {S : List Nat} {F : List (Nat × Nat)} {q o : dK} (h : cFr S F q o) (hd : klT S F = true) : KL q o := by
  unfold klT at hd
  simp only [Bool.and_eq_true, List.all_eq_true, decide_eq_true_eq] at hd
  intro j k hj
  refine h.1 j k (fun z => ?_) (fun z => ?_)
  · have := hd.1 j z; omega
  · have h2 : j = 0 ∨ j = 7 ∨ (18 ≤ j ∧ j ≤ 48) ∨ (j, k) = (1, 8) := hd.2 _ z
    rcases h2 with h3 | h3 | h3 | h3
    · omega
    · omega
    · omega
    · have e1 : j = 1 := congrArg Prod.fst h3
      have e2 : k = 8 := congrArg Prod.snd h3
      omega
theorem KL.t {q q2 o : dK} (h : KL q q2) (h2 : KL q2 o) : KL q o := fun j k hj => (h2 j k hj).trans (h j k hj)
theorem kl_c {q : dK} {j k : Nat} {v : Int32} (hd : klT [] [(j, k)] = true) : KL q (cui q j k v) := kl_fr (S := []) (F := [(j, k)]) (cFr.rf.f (List.mem_singleton.mpr rfl)) hd
theorem kl_r {q : dK} {j k : Nat} {v : Int32} (hd : klT [j] [] = true) : KL q (cui q j k v) := kl_fr (S := [j]) (F := []) (cFr.rf.i (List.mem_singleton.mpr rfl)) hd
theorem ok_X9_law_s0 (ns : Nat) (q : dK) (hT : TC q) (hn : 468 ≤ ns) (hL : q.2.2.length < 1000) : dOk (zX9_law_s0 ns q) (fun (o : Int32 × dK) => TC o.2 ∧ o.2.1 0 12 = 0 ∧ o.2.1 32 103 = q.1 32 103 ∧ o.2.2.2.length ≤ q.2.2.length + 1 ∧ KL q o.2) := by
  have f12 := rg_0_12 hT
  unfold zX9_law_s0
  refine dOk_L (fun q1 e1 => ?_)
  have hT1 : TC q1 := by rw [e1]; exact st_0_12 hT (by decide) (by decide)
  have a12 : q1.1 0 12 = 0 := by rw [e1, cui_e]
  have a103 : q1.1 32 103 = q.1 32 103 := by rw [e1, cui_o (by decide)]
  have aL : q1.2.2 = q.2.2 := by rw [e1]; rfl
  have aK : KL q q1 := by rw [e1]; exact kl_c rfl
  clear e1
  have hrf : ∀ (qx : dK) (r : Int32), TC qx → qx.1 0 12 = 0 → qx.1 32 103 = q.1 32 103 → qx.2.2.length ≤ q.2.2.length + 1 → KL q qx → dOk (dB (zX9_refuse_s0 qx r) (fun r17 q19 => some (r17, q19))) (fun (o : Int32 × dK) => TC o.2 ∧ o.2.1 0 12 = 0 ∧ o.2.1 32 103 = q.1 32 103 ∧ o.2.2.2.length ≤ q.2.2.length + 1 ∧ KL q o.2) := by
    intro qx r k1 k2 k3 k4 k5
    refine dOk_B (ok_X9_refuse_s0 qx r k1) (fun r1 q2 h => dOk_some ?_)
    obtain ⟨h1, h2, -⟩ := h
    replace h1 : TC q2 := h1
    replace h2 : cFr [48] [(0, 18)] qx q2 := h2
    exact ⟨h1, (h2.1 0 12 (by decide) (by decide)).trans k2, (h2.1 32 103 (by decide) (by decide)).trans k3, by show q2.2.2.length ≤ _; rw [h2.2]; exact k4, k5.t (kl_fr h2 rfl)⟩
  refine dOk_lt rfl (by decide : Int32.toInt 6 = 6) (fun c => ?_) (fun _ => hrf q1 _ hT1 a12 a103 (by rw [aL]; omega) aK)
  refine dOk_B (ok_X4_read_s24_s46_s25 q1 (q.1 0 12) 0 hT1 f12.1 (Or.inl (by decide))) (fun r2 q4 h4 => ?_)
  obtain ⟨hT4, hF4⟩ := h4
  replace hT4 : TC q4 := hT4
  replace hF4 : cFr [26, 27, 28, 29, 30, 31] [(24, 0), (24, 1), (24, 2), (24, 3), (24, 4), (24, 5), (24, 6), (24, 7), (24, 8), (24, 9), (24, 10), (25, 6), (25, 7)] q1 q4 := hF4
  refine dOk_L (fun q5 e5 => ?_)
  have hT5 : TC q5 := by rw [e5]; exact sa_0_13 hT4
  have b12 : q5.1 0 12 = 0 := by rw [e5, cui_n (by decide), hF4.1 0 12 (by decide) (by decide)]; exact a12
  have b103 : q5.1 32 103 = q.1 32 103 := by rw [e5, cui_o (by decide), hF4.1 32 103 (by decide) (by decide)]; exact a103
  have b18 : q5.1 1 8 = q1.1 1 8 := by rw [e5, cui_o (by decide), hF4.1 1 8 (by decide) (by decide)]
  have bL : q5.2.2 = q.2.2 := by rw [e5]; exact hF4.2.trans aL
  have bK : KL q q5 := (aK.t (kl_fr hF4 rfl)).t (by rw [e5]; exact kl_c rfl)
  clear e5 hT4 hF4
  refine dOk_eq rfl rfl (fun _ _ => ?_) (fun _ _ => hrf q5 _ hT5 b12 b103 (by rw [bL]; omega) bK)
  refine dOk_B (ok_X7_copyOfIt_s25 ns q5 hT5 hn (by rw [bL]; exact hL)) (fun r6 q8 h8 => ?_)
  obtain ⟨hr, t, N, X, h1, h2⟩ := h8
  replace hr : Int32.ofNat (q5.2.2.length + 1) = r6 := hr
  replace N : NT q5 q8 t := N
  have hT8 := tc_new hT5 N X h1 h2
  have g18 := rg_1_8 hT1
  have hl8 := (nt_x hr N (by rw [bL]; exact hL)).2.2
  have tr6 : Int32.toInt r6 = ((q5.2.2.length + 1 : Nat) : Int) := by rw [← hr]; exact nI_toInt (n := q5.2.2.length + 1) (by rw [bL]; omega)
  refine dOk_G (decide_eq_true (by rw [bL])) (dOk_G (dg_ok (by rw [b18]; exact g18.1) (by rw [b18]; omega)) (dOk_G (nt_g hr N (by rw [bL]; exact hL)).1 (dOk_L (fun q12 e12 => dOk_L (fun q13 e13 => ?_)))))
  have hT12 : TC q12 := by rw [e12]; exact tc_law hT8 (Or.inl rfl) (by omega) (by rw [hl8]; omega)
  have c18 : q12.1 1 8 = q1.1 1 8 := by rw [e12, cui_o (by decide), N.1]; exact b18
  have ta : Int32.toInt ((q1.1 1 8) + 1) = Int32.toInt (q1.1 1 8) + 1 := ti_add rfl (by decide) (by omega) (by omega)
  have hT13 : TC q13 := by rw [e13, c18]; exact st_1_8 hT12 (by omega) (by omega)
  refine dOk_B (ok_X9_accept_s0 q13 _ hT13) (fun r14 q16 h16 => dOk_some ?_)
  obtain ⟨k1, k2, -⟩ := h16
  replace k1 : TC q16 := k1
  replace k2 : cFr [] [(0, 18)] q13 q16 := k2
  have cK : KL q q16 := by
    have n8 : KL q5 q8 := fun j k _ => by rw [N.1]
    refine ((bK.t n8).t (KL.t (q2 := q12) ?_ ?_)).t (kl_fr k2 rfl)
    · rw [e12]; exact kl_r rfl
    · rw [e13]; exact kl_c rfl
  refine ⟨k1, ?_, ?_, ?_, cK⟩
  · show q16.1 0 12 = 0
    rw [k2.1 0 12 (by decide) (by decide), e13, cui_o (by decide), e12, cui_o (by decide), N.1]; exact b12
  · show q16.1 32 103 = _
    rw [k2.1 32 103 (by decide) (by decide), e13, cui_o (by decide), e12, cui_o (by decide), N.1]; exact b103
  · show q16.2.2.length ≤ _
    rw [k2.2, e13]
    show q12.2.2.length ≤ _
    rw [e12]
    show q8.2.2.length ≤ _
    rw [hl8, bL]
    exact Nat.le_refl _
end
