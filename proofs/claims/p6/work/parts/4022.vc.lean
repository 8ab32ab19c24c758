/-! the evaluator follows the grammar -/
def bI (o : Bool) : Int := match o with
  | true => 1
  | false => 0
def EvQ (o : Bool) (f : Nat → Int32) (e i : Nat) (q : dS) : Prop := TS q ∧ q.1 2 = f ∧ (q.1 0 22).toInt = (i : Int) ∧ (q.1 0 23).toInt = (e : Int) ∧ e ≤ 2800 ∧ (q.1 0 25).toInt = bI o ∧ i ≤ e + 1
def EvL (o : Bool) (f : Nat → Int32) (e : Nat) (X : Nat → Nat → Prop) (z : dS → Int32 → Option (Int64 × dS)) : Prop := ∀ (q : dS) (p1 : Int32) (i j : Nat), EvQ o f e i q → X i j → dOk (z q p1) (fun r => EvQ o f e j r.2 ∧ dFr [] [22, 24] q r.2)
def EvB (o : Bool) (f : Nat → Int32) (e : Nat) (X : Nat → Nat → Prop) (z : dS → Int32 → Option (Int32 × dS)) : Prop := ∀ (q : dS) (p1 : Int32) (i j : Nat), EvQ o f e i q → X i j → dOk (z q p1) (fun r => EvQ o f e j r.2 ∧ dFr [] [22, 24] q r.2 ∧ (r.1.toInt = 0 ∨ r.1.toInt = 1))
theorem lawC_in {f : Nat → Int32} {e i : Nat} (h : ¬ lawC f e i = 0) : i < e := by
  unfold lawC at h
  by_cases c : i < e
  · exact c
  · rw [if_neg c] at h; exact absurd rfl h
theorem evq_go {o : Bool} {f : Nat → Int32} {e i : Nat} {q : dS} (h : EvQ o f e i q) (hi : i ≤ e) : EvQ o f e (i + 1) (dui q 0 22 ((q.1 0 22) + 1)) := by
  obtain ⟨hT, hf, h1, h2, h3, h4, h5⟩ := h
  have t : Int32.toInt (q.1 0 22 + 1) = (i : Int) + 1 := ti_add h1 (by decide) (by omega) (by omega)
  refine ⟨ts_f hT (ti_rg _).1 (ti_rg _).2, ?_, ?_, ?_, h3, ?_, by omega⟩
  · rw [dui_o (by decide)]; exact hf
  · rw [dui_e, t]; omega
  · rw [dui_n (by decide)]; exact h2
  · rw [dui_n (by decide)]; exact h4
theorem evq_br {o : Bool} {f : Nat → Int32} {e i : Nat} {q : dS} {v : Int32} (h : EvQ o f e i q) (hv : v.toInt = 0 ∨ v.toInt = 1) : EvQ o f e i (dui q 0 24 v) := by
  obtain ⟨hT, hf, h1, h2, h3, h4, h5⟩ := h
  refine ⟨ts_f hT (show 0 ≤ _ by omega) (show _ ≤ 1 by omega), ?_, ?_, ?_, h3, ?_, h5⟩
  · rw [dui_o (by decide)]; exact hf
  · rw [dui_n (by decide)]; exact h1
  · rw [dui_n (by decide)]; exact h2
  · rw [dui_n (by decide)]; exact h4
theorem fr_go {q : dS} {v : Int32} : dFr [] [22, 24] q (dui q 0 22 v) := dFr.rf.f (by decide)
theorem fr_br {q : dS} {v : Int32} : dFr [] [22, 24] q (dui q 0 24 v) := dFr.rf.f (by decide)
theorem fr_t {q q1 q2 : dS} (h : dFr [] [22, 24] q q1) (h2 : dFr [] [22, 24] q1 q2) : dFr [] [22, 24] q q2 := h.t h2 (by decide) (by decide)
theorem ev_at {o : Bool} {f : Nat → Int32} {e i : Nat} {q : dS} (h : EvQ o f e i q) : dOk (zX10_codeAt q (q.1 0 22)) (fun r => r.2 = q ∧ r.1.toInt = lawC f e i) := by
  obtain ⟨hT, hf, h1, h2, h3, h4, h5⟩ := h
  unfold zX10_codeAt zX10_codeAt_21
  refine dOk_le h2 h1 (fun c => ?_) (fun c => ?_)
  · refine dOk_some ⟨rfl, ?_⟩
    show Int32.toInt 0 = _
    unfold lawC
    rw [if_neg (by omega)]
    decide
  · have t : Int32.toInt (40 + q.1 0 22) = 40 + (i : Int) := ti_add (by decide) h1 (by omega) (by omega)
    refine dOk_G (dg_ok (by omega) (by omega)) ?_
    have n : (Int32.toNatClampNeg (40 + q.1 0 22)) = 40 + i := by
      have := cl_eq (i := 40 + q.1 0 22) (by omega)
      omega
    refine dOk_L (fun v ev => ?_)
    refine dOk_some ⟨rfl, ?_⟩
    show v.toInt = _
    unfold lawC
    rw [if_pos (by omega), ev, n, hf]
theorem ev_pass {o : Bool} {f : Nat → Int32} {e i : Nat} {q : dS} (c : Int32) (hc : ¬ c.toInt = 0) (h : EvQ o f e i q) : dOk (zX10_passes0 q c) (fun r => (r.1 = 1 ∧ lawC f e i = c.toInt ∧ EvQ o f e (i + 1) r.2 ∧ dFr [] [22, 24] q r.2) ∨ (r.1 = 0 ∧ ¬ lawC f e i = c.toInt ∧ r.2 = q)) := by
  unfold zX10_passes0 zX10_passes0_17 zX10_passes0_32
  refine dOk_B (ev_at h) (fun r q3 hr => ?_)
  obtain ⟨e3, e4⟩ := hr
  have e3 : q3 = q := e3
  have e4 : r.toInt = lawC f e i := e4
  subst e3
  refine dOk_eq rfl rfl (fun z z1 => ?_) (fun z z1 => ?_)
  · have hi : i < e := lawC_in (f := f) (e := e) (i := i) (by omega)
    rw [if_neg (by decide)]
    refine dOk_L (fun q4 e5 => ?_)
    refine dOk_G (by decide) (dOk_some (Or.inl ⟨rfl, by omega, ?_, ?_⟩))
    · show EvQ o f e (i + 1) q4
      rw [e5]; exact evq_go h (by omega)
    · show dFr [] [22, 24] q3 q4
      rw [e5]; exact fr_go
  · rw [if_pos rfl]
    exact dOk_G (by decide) (dOk_some (Or.inr ⟨rfl, by omega, rfl⟩))
theorem sg (c : Int32) (h0 : 0 ≤ c.toInt) (h1 : c.toInt ≤ 255) : dOk (zX10_sign c) (fun r => r.toInt = c.toInt + 100) :=
  dOk_mono (ok_sign c ⟨h0, h1⟩) (fun r hr => by first | exact hr | exact hr.1)
theorem ev_bounded {o : Bool} {f : Nat → Int32} {e i : Nat} {q : dS} (x : Int64) (l : Int32) (h : EvQ o f e i q) : dOk (zX10_bounded q x l) (fun r => EvQ o f e i r.2 ∧ dFr [] [22, 24] q r.2) := by
  have h2 : ∀ (q1 : dS), EvQ o f e i q1 → dFr [] [22, 24] q q1 → dOk (zX10_bounded_25 q1 x) (fun r => EvQ o f e i r.2 ∧ dFr [] [22, 24] q r.2) := by
    intro q1 h1 hF
    unfold zX10_bounded_25 zX10_bounded_37
    exact dOk_eq rfl rfl (fun _ _ => dOk_some ⟨h1, hF⟩) (fun _ _ => dOk_some ⟨h1, hF⟩)
  have h3 : dOk (zX10_bounded_20 q x) (fun r => EvQ o f e i r.2 ∧ dFr [] [22, 24] q r.2) := by
    unfold zX10_bounded_20
    refine dOk_L (fun q1 e1 => ?_)
    subst e1
    exact h2 _ (evq_br h (Or.inr (by decide))) fr_br
  unfold zX10_bounded
  refine dOk_eq rfl rfl (fun _ _ => h2 q h dFr.rf) (fun _ _ => ?_)
  refine dOk_lt rfl rfl (fun _ => h3) (fun _ => ?_)
  exact dOk_le rfl rfl (fun _ => h2 q h dFr.rf) (fun _ => h3)
theorem lawC_set {q : dS} {j k : Nat} {v : Int32} (h : ¬ 2 = j) : (dui q j k v).1 2 = q.1 2 := dui_o h
/-- a leaf: behind the bracket's test -/
theorem ev_leaf {kU : dS → Int32 → Option (Int64 × dS)} {o : Bool} {f : Nat → Int32} {e j : Nat} {q : dS} (x1 x2 x3 : Int32) (h : EvQ o f e j q) (h0 : 1 ≤ j) (hje : j ≤ e) (hx : x2.toInt = 50 ∨ (o = false ∧ 8 ≤ x2.toInt ∧ x2.toInt ≤ 16) ∨ o = true) : dOk (zX10_partOf_94 kU q x1 x2 x3) (fun r => EvQ o f e j r.2 ∧ dFr [] [22, 24] q r.2) := by
  have hT := h.1
  have h1 := h.2.2.1
  have h3 := h.2.2.2.2.1
  have h4 := h.2.2.2.2.2.1
  have h5 := h.2.2.2.2.2.2
  unfold zX10_partOf_94 zX10_partOf_105 zX10_partOf_157
  refine dOk_eq rfl rfl (fun _ _ => dOk_some ⟨h, dFr.rf⟩) (fun _ _ => ?_)
  refine dOk_eq rfl rfl (fun _ _ => ?_) (fun _ _ => dOk_some ⟨h, dFr.rf⟩)
  refine dOk_eq (A := x2.toInt) (B := 50) rfl (by decide) (fun _ _ => ?_) (fun _ c50 => ?_)
  · have t1 : Int32.toInt (2840 + q.1 0 22) = 2840 + (j : Int) := ti_add (by decide) h1 (by omega) (by omega)
    have t2 : Int32.toInt (2840 + q.1 0 22 - 1) = 2840 + (j : Int) - 1 := ti_sub t1 (by decide) (by omega) (by omega)
    refine dOk_G (dg_ok (by omega) (by omega)) (dOk_L (fun v ev => dOk_some ⟨h, dFr.rf⟩))
  · refine dOk_eq (A := Int32.toInt (q.1 0 25)) (B := 0) rfl (by decide) (fun _ c => ?_) (fun _ c => ?_)
    · have ho : o = false := by
        cases o with
        | false => rfl
        | true => unfold bI at h4; dsimp only at h4; omega
      have hr : 8 ≤ x2.toInt ∧ x2.toInt ≤ 16 := by
        rcases hx with hx | hx | hx
        · omega
        · exact hx.2
        · rw [ho] at hx; cases hx
      have t1 : Int32.toInt (x2 - 8) = x2.toInt - 8 := ti_sub rfl (by decide) (by omega) (by omega)
      exact dOk_G (dg_ok (by omega) (by omega)) (dOk_L (fun v ev => dOk_some ⟨h, dFr.rf⟩))
    · refine dOk_B (ok_orderValue q x2 x3 hT) (fun r q5 hr => ?_)
      have e5 : q5 = q := by first | exact hr | exact hr.1
      subst e5
      exact dOk_some ⟨h, dFr.rf⟩
theorem ev_part {kU : dS → Int32 → Option (Int64 × dS)} {o : Bool} {f : Nat → Int32} {e : Nat} (d : Nat) (hk : ∀ d', d = d' + 1 → EvL o f e (gSum o (lawC f e) (lawV f) d') kU) : EvL o f e (gPart o (lawC f e) (lawV f) d) (zX10_partOf kU) := by
  intro q p1 i j h hX
  have hX : gLeaf o (lawC f e) (lawV f) i j ∨ ∃ d', d = d' + 1 ∧ lawC f e i = 191 ∧ ∃ m : Nat, gSum o (lawC f e) (lawV f) d' (i + 1) m ∧ lawC f e m = 193 ∧ j = m + 1 := by
    cases d with
    | zero => exact Or.inl hX
    | succ d =>
      rcases hX with hX | hX
      · exact Or.inl hX
      · exact Or.inr ⟨d, rfl, hX⟩
  unfold zX10_partOf
  refine dOk_V (sg 91 (by decide) (by decide)) (fun r1 hr1 => ?_)
  have hr1 : r1.toInt = 191 := hr1
  refine dOk_B (ev_pass r1 (by omega) h) (fun r3 q5 h3 => ?_)
  rcases hX with hX | ⟨d', rfl, hb, m, hm, hm2, rfl⟩
  · -- a leaf
    have hc : ¬ lawC f e i = 0 ∧ ¬ lawC f e i = 191 := by
      cases o with
      | false => have hX : gLeafL (lawC f e) i j := hX; unfold gLeafL at hX; omega
      | true => have hX : gLeafO (lawC f e) (lawV f) i j := hX; unfold gLeafO at hX; omega
    have hi := lawC_in hc.1
    rcases h3 with ⟨_, z, _⟩ | ⟨z0, _, z2⟩
    · exact absurd z (by omega)
    · have z0 : r3 = 0 := z0
      have z2 : q5 = q := z2
      subst z0 z2
      rw [if_pos rfl]
      refine dOk_B (ev_at h) (fun r6 q8 hr => ?_)
      obtain ⟨e3, e4⟩ := hr
      have e3 : q8 = q5 := e3
      have e4 : r6.toInt = lawC f e i := e4
      subst e3
      refine dOk_L (fun q9 e9 => ?_)
      have h9 : EvQ o f e (i + 1) q9 := by rw [e9]; exact evq_go h (by omega)
      have hF9 : dFr [] [22, 24] q8 q9 := by rw [e9]; exact fr_go
      have h25 := h9.2.2.2.2.2.1
      cases o with
      | false =>
        have hX : gLeafL (lawC f e) i j := hX
        unfold gLeafL at hX
        obtain ⟨hx, rfl⟩ := hX
        rw [if_pos (Int32.toInt_inj.mp h25)]
        exact dOk_mono (ev_leaf p1 r6 0 h9 (by omega) (by omega) (by rcases hx with z | z; exact Or.inl (by omega); exact Or.inr (Or.inl ⟨rfl, by omega, by omega⟩))) (fun r hr => ⟨hr.1, fr_t hF9 hr.2⟩)
      | true =>
        have hX : gLeafO (lawC f e) (lawV f) i j := hX
        unfold gLeafO at hX
        rw [if_neg (fun z => by rw [z] at h25; exact absurd h25 (by decide))]
        rcases hX with ⟨hx, rfl⟩ | ⟨hx, hx2, hx3, hx4, rfl⟩
        · refine dOk_eq (A := r6.toInt) (B := 21) rfl (by decide) (fun _ c => by omega) (fun _ _ => ?_)
          refine dOk_eq (A := r6.toInt) (B := 15) rfl (by decide) (fun _ c => by omega) (fun _ _ => ?_)
          exact dOk_mono (ev_leaf p1 r6 0 h9 (by omega) (by omega) (Or.inr (Or.inr rfl))) (fun r hr => ⟨hr.1, fr_t hF9 hr.2⟩)
        · have hi2 : i + 1 < e := lawC_in (f := f) (e := e) (i := i + 1) (by omega)
          have hb : dOk (zX10_partOf_70 kU q9 p1 r6) (fun r => EvQ true f e (i + 2) r.2 ∧ dFr [] [22, 24] q8 r.2) := by
            unfold zX10_partOf_70
            have t1 : Int32.toInt (2840 + q9.1 0 22) = 2840 + ((i + 1 : Nat) : Int) := ti_add (by decide) h9.2.2.1 (by omega) (by have := h9.2.2.2.2.1; omega)
            refine dOk_G (dg_ok (by omega) (by have := h9.2.2.2.2.1; omega)) (dOk_L (fun v ev => dOk_L (fun q3 e3 => ?_)))
            have h10 : EvQ true f e (i + 1 + 1) q3 := by rw [e3]; exact evq_go h9 (by omega)
            have hF10 : dFr [] [22, 24] q9 q3 := by rw [e3]; exact fr_go
            exact dOk_mono (ev_leaf p1 r6 v h10 (by omega) (by omega) (Or.inr (Or.inr rfl))) (fun r hr => ⟨hr.1, fr_t hF9 (fr_t hF10 hr.2)⟩)
          refine dOk_eq (A := r6.toInt) (B := 21) rfl (by decide) (fun _ _ => hb) (fun _ _ => ?_)
          exact dOk_eq (A := r6.toInt) (B := 15) rfl (by decide) (fun _ _ => hb) (fun _ _ => by omega)
  · -- a bracket
    have hme := lawC_in (f := f) (e := e) (i := m) (by omega)
    rcases h3 with ⟨z0, _, z2, z3⟩ | ⟨_, z1, _⟩
    · have z0 : r3 = 1 := z0
      have z2 : EvQ o f e (i + 1) q5 := z2
      subst z0
      rw [if_neg (by decide)]
      refine dOk_B (hk d' rfl q5 p1 (i + 1) m z2 hm) (fun r10 q12 hr => ?_)
      obtain ⟨h12, hF12⟩ := hr
      refine dOk_L (fun q13 e13 => dOk_some ?_)
      show EvQ o f e (m + 1) q13 ∧ dFr [] [22, 24] q q13
      rw [e13]
      exact ⟨evq_go h12 (by omega), fr_t z3 (fr_t hF12 fr_go)⟩
    · exact absurd (show lawC f e i = r1.toInt by omega) z1
