theorem lg_ge {x y : Int64} (h : 0 ≤ (lg_cmp x y).toInt) : y.toInt ≤ x.toInt := by
  unfold lg_cmp at h
  by_cases c : x > y
  · have := Int64.lt_iff_toInt_lt.mp c
    omega
  · rw [if_neg c] at h
    by_cases c2 : x = y
    · rw [c2]; exact Int.le_refl _
    · rw [if_neg c2] at h
      exact absurd h (by decide)
theorem lg_le {x y : Int64} (h : (lg_cmp x y).toInt ≤ 0) : x.toInt ≤ y.toInt := by
  unfold lg_cmp at h
  by_cases c : x > y
  · rw [if_pos c] at h
    exact absurd h (by decide)
  · exact Int.not_lt.mp (fun z => c (Int64.lt_iff_toInt_lt.mpr z))
theorem l2i {x : Int64} (h0 : -2147483648 ≤ x.toInt) (h1 : x.toInt ≤ 2147483647) : (Int64.toInt32 x).toInt = x.toInt := by
  rw [Int64.toInt_toInt32]
  exact Int.bmod_eq_of_le (by omega) (by omega)
theorem i2l (x : Int32) : (Int32.toInt64 x).toInt = x.toInt := Int32.toInt_toInt64 x
def rg99 (p2 : Int32) (x : Int64) : Prop := (0 ≤ p2.toInt ∧ p2.toInt ≤ 99) → 0 ≤ x.toInt ∧ x.toInt ≤ 99
theorem fr_w {q q1 : dS} (h : dFr [] [22, 24] q q1) : dFr [] [22, 23, 24, 25] q q1 := h.w (by decide) (by decide)
theorem fr_wt {q q1 q2 : dS} (h : dFr [] [22, 23, 24, 25] q q1) (h2 : dFr [] [22, 24] q1 q2) : dFr [] [22, 23, 24, 25] q q2 := h.t h2 (by decide) (by decide)
theorem ok_tells_L (q : dS) (p2 : Int32) (f : Nat → Int32) (e s0 : Nat) (hL : gSeq (fun i => lawC f e i = 159) (gClause (lawC f e) (lawV f)) s0 e) (q5 : dS) (hQ5 : EvQ false f e s0 q5) (hF5 : dFr [] [22, 23, 24, 25] q q5) (p1 : Int32) (x30 : Int64) (h30 : rg99 p2 x30) : dOk (zX10_tells_60 dF q5 p1 x30) (fun (o : Int32 × dS) => (TS o.2) ∧ (dFr [] [22, 23, 24, 25] q o.2) ∧ ((0 ≤ Int32.toInt p2 ∧ Int32.toInt p2 ≤ 99) → 0 ≤ Int32.toInt o.1 ∧ Int32.toInt o.1 ≤ 99)) := by
  unfold zX10_tells_60
  refine dFix_ok (fun (a : dS × Int32 × Int64) => (∃ i : Nat, EvQ false f e i a.1 ∧ dFr [] [22, 23, 24, 25] q a.1 ∧ (i = e + 1 ∨ gSeq (fun i => lawC f e i = 159) (gClause (lawC f e) (lawV f)) i e)) ∧ rg99 p2 a.2.2) (fun (a : dS × Int32 × Int64) => (2802 - Int32.toInt (a.1.1 0 22)).toNat) ?_ _ ⟨⟨s0, hQ5, hF5, Or.inr hL⟩, h30⟩ _ (dF_gt ?_)
  · intro a ha k hk
    obtain ⟨qa, x1, x3⟩ := a
    obtain ⟨⟨i, h, hF, hs⟩, hr⟩ := ha
    have h : EvQ false f e i qa := h
    have hF : dFr [] [22, 23, 24, 25] q qa := hF
    have hr : rg99 p2 x3 := hr
    have hgo := h.2.2.1
    have hge := h.2.2.2.1
    have hee := h.2.2.2.2.1
    show dOk (zX10_tells_60b (fun q x1 x3 => k (q, x1, x3)) qa x1 x3) _
    unfold zX10_tells_60b
    refine dOk_le hge hgo (fun c => ?_) (fun c => ?_)
    · refine dOk_some ⟨h.1, hF, fun h99 => ?_⟩
      have := hr h99
      show 0 ≤ Int32.toInt (Int64.toInt32 x3) ∧ Int32.toInt (Int64.toInt32 x3) ≤ 99
      rw [l2i (by omega) (by omega)]
      exact this
    rcases hs with hs | hs
    · omega
    obtain ⟨m, hc, htl⟩ := gEnd_tail hs
    have hback : ∀ (q' : dS) (v : Int64), EvQ false f e (m + 1) q' → i ≤ m → dFr [] [22, 23, 24, 25] q q' → rg99 p2 v → dOk (k (q', x1, v)) (fun (o : Int32 × dS) => (TS o.2) ∧ (dFr [] [22, 23, 24, 25] q o.2) ∧ ((0 ≤ Int32.toInt p2 ∧ Int32.toInt p2 ≤ 99) → 0 ≤ Int32.toInt o.1 ∧ Int32.toInt o.1 ≤ 99)) := by
      intro q' v h' hi' hF' hr'
      refine hk (q', x1, v) ⟨⟨m + 1, h', hF', ?_⟩, hr'⟩ ?_
      · rcases htl with ⟨_, rfl⟩ | ⟨_, h2⟩
        · exact Or.inl rfl
        · exact Or.inr h2
      · have := h'.2.2.1
        show (2802 - Int32.toInt (q'.1 0 22)).toNat < (2802 - Int32.toInt (qa.1 0 22)).toNat
        omega
    have hme : m ≤ e := by
      rcases htl with ⟨_, rfl⟩ | ⟨h2, _⟩
      · exact Nat.le_refl _
      · have := lawC_in (f := f) (e := e) (i := m) (by omega)
        omega
    have h199 : ∀ (q' : dS) (v : Int64), EvQ false f e m q' → i ≤ m → dFr [] [22, 23, 24, 25] q q' → rg99 p2 v → dOk (zX10_tells_199 (fun q x1 x3 => k (q, x1, x3)) q' x1 v) (fun (o : Int32 × dS) => (TS o.2) ∧ (dFr [] [22, 23, 24, 25] q o.2) ∧ ((0 ≤ Int32.toInt p2 ∧ Int32.toInt p2 ≤ 99) → 0 ≤ Int32.toInt o.1 ∧ Int32.toInt o.1 ≤ 99)) := by
      intro q' v h' hi' hF' hr'
      unfold zX10_tells_199
      refine dOk_L (fun q1 e1 => ?_)
      subst e1
      exact hback _ v (evq_go h' hme) hi' (fr_wt hF' fr_go) hr'
    have h145 : ∀ (q' : dS) (x5 : Int32) (x6 : Int64) (x8 y0 : Int32), EvQ false f e m q' → i ≤ m → dFr [] [22, 23, 24, 25] q q' → dOk (zX10_tells_145 (fun q x1 x3 => k (q, x1, x3)) q' x1 x3 x5 x6 x8 y0) (fun (o : Int32 × dS) => (TS o.2) ∧ (dFr [] [22, 23, 24, 25] q o.2) ∧ ((0 ≤ Int32.toInt p2 ∧ Int32.toInt p2 ≤ 99) → 0 ≤ Int32.toInt o.1 ∧ Int32.toInt o.1 ≤ 99)) := by
      intro q' x5 x6 x8 y0 h' hi' hF'
      have h0 := h199 q' x3 h' hi' hF' hr
      unfold zX10_tells_145 zX10_tells_198
      refine dOk_eq rfl rfl (fun _ _ => ?_) (fun _ _ => h0)
      refine dOk_eq rfl rfl (fun _ _ => h0) (fun _ _ => ?_)
      refine dOk_eq rfl rfl (fun _ _ => ?_) (fun _ _ => h0)
      refine dOk_eq rfl rfl (fun _ _ => ?_) (fun _ _ => h0)
      refine dOk_le (A := 0) (by decide) rfl (fun c1 => ?_) (fun _ => h199 q' 0 h' hi' hF' (fun _ => by decide))
      refine dOk_le (B := 0) rfl (by decide) (fun c2 => ?_) (fun _ => h199 q' 99 h' hi' hF' (fun _ => by decide))
      have a1 := lg_ge c1
      have a2 := lg_le c2
      have z0 : (0 : Int64).toInt = 0 := by decide
      have z9 : (99 : Int64).toInt = 99 := by decide
      exact h199 q' x6 h' hi' hF' (fun _ => by omega)
    have h111 : ∀ (q' : dS) (x5 : Int32) (y0 : Int64) (m1 : Nat), EvQ false f e m1 q' → i ≤ m1 → gIf false (lawC f e) (lawV f) m1 m → dFr [] [22, 23, 24, 25] q q' → dOk (zX10_tells_111 (fun q x1 x3 => k (q, x1, x3)) q' x1 x3 x5 y0) (fun (o : Int32 × dS) => (TS o.2) ∧ (dFr [] [22, 23, 24, 25] q o.2) ∧ ((0 ≤ Int32.toInt p2 ∧ Int32.toInt p2 ≤ 99) → 0 ≤ Int32.toInt o.1 ∧ Int32.toInt o.1 ≤ 99)) := by
      intro q' x5 y0 m1 h' hi' hif hF'
      unfold zX10_tells_111 zX10_tells_140
      refine dOk_L (fun q1 e1 => ?_)
      have h1 : EvQ false f e m1 q1 := by rw [e1]; exact evq_br h' (by decide)
      have hF1 : dFr [] [22, 23, 24, 25] q q1 := by rw [e1]; exact fr_wt hF' fr_br
      refine dOk_B (ev_pass 4 (by decide) h1) (fun r2 q4 h3 => ?_)
      rcases h3 with ⟨z0, z1, z2, z3⟩ | ⟨z0, z1, z2⟩
      · have z0 : r2 = 1 := z0
        have z1 : lawC f e m1 = 4 := z1
        subst z0
        rw [if_neg (by decide)]
        rcases hif with ⟨_, hte⟩ | ⟨hn, _⟩
        · have hmo := gTest_mono hte
          refine dOk_B (ev_test 10 8 (by decide) (by decide) q4 1 (m1 + 1) m z2 hte) (fun r5 q7 hr7 => ?_)
          obtain ⟨h7, hF7, _⟩ := hr7
          have hF8 := fr_wt (fr_wt hF1 z3) hF7
          exact dOk_eq rfl rfl (fun _ _ => h145 q7 _ _ _ _ h7 (by omega) hF8) (fun _ _ => h145 q7 _ _ _ _ h7 (by omega) hF8)
        · exact absurd z1 hn
      · have z0 : r2 = 0 := z0
        have z1 : ¬ lawC f e m1 = 4 := z1
        have z2 : q4 = q1 := z2
        subst z0 z2
        rw [if_pos rfl]
        rcases hif with ⟨h4, _⟩ | ⟨_, rfl⟩
        · exact absurd h4 z1
        · exact h145 q4 _ _ _ _ h1 hi' hF1
    refine dOk_B (ev_at h) (fun r1 q3 hr3 => ?_)
    obtain ⟨e3, e4⟩ := hr3
    have e3 : q3 = qa := e3
    have e4 : r1.toInt = lawC f e i := e4
    subst e3
    refine dOk_L (fun q4 e5 => dOk_L (fun q6 e6 => ?_))
    have h4 : EvQ false f e i q4 := by rw [e5]; exact evq_br h (by decide)
    have h6 : EvQ false f e (i + 1) q6 := by rw [e6]; exact evq_go h4 (by omega)
    have hF6 : dFr [] [22, 23, 24, 25] q q6 := by rw [e6]; refine fr_wt ?_ fr_go; rw [e5]; exact fr_wt hF fr_br
    rcases hc with ⟨hc1, m1, hsum, hif⟩ | ⟨hc1, hif⟩
    · have hr1 : r1 = 1 := Int32.toInt_inj.mp (by rw [e4, hc1]; decide)
      rw [if_pos hr1]
      have hmo := gSum_mono hsum
      refine dOk_B (ev_sum 10 8 (by decide) q6 1 (i + 1) m1 h6 hsum) (fun r6 q8 hr8 => ?_)
      exact h111 q8 r1 r6 m1 hr8.1 (by omega) hif (fr_wt hF6 hr8.2)
    · have hr1 : ¬ r1 = 1 := fun z => by
        have z2 : r1.toInt = 1 := by rw [z]; decide
        omega
      rw [if_neg hr1]
      exact h111 q6 r1 1 (i + 1) h6 (by omega) hif hF6
  · have h9 := hQ5.2.2.1
    show (2802 - Int32.toInt (q5.1 0 22)).toNat < 1000000000000
    omega
theorem ok_tells (q : dS) (p1 : Int32) (p2 : Int32) (hT : TS q) : dOk (zX10_tells q p1 p2) (fun (o : Int32 × dS) => (TS o.2) ∧ (dFr [] [22, 23, 24, 25] q o.2) ∧ ((0 ≤ Int32.toInt p2 ∧ Int32.toInt p2 ≤ 99) → 0 ≤ Int32.toInt o.1 ∧ Int32.toInt o.1 ≤ 99)) := by
  unfold zX10_tells
  have f32 : -1 ≤ Int32.toInt (q.1 2 32) ∧ Int32.toInt (q.1 2 32) ≤ 5 := hT.1 2 32
  have f31 : 0 ≤ Int32.toInt (q.1 2 31) ∧ Int32.toInt (q.1 2 31) ≤ 6 := hT.1 2 31
  have k32 : Int32.toInt (q.1 2 32) < Int32.toInt (q.1 2 31) := hT.2.1.1
  refine dOk_eq (A := Int32.toInt (q.1 2 32)) (B := -1) rfl (by decide) (fun _ _ => dOk_some ⟨hT, dFr.rf, fun h => h⟩) (fun _ c32 => ?_)
  refine dOk_L (fun q1 e1 => dOk_L (fun q2 e2 => ?_))
  have hT1 : TS q1 := by rw [e1]; exact ts_f hT (by decide) (by decide)
  have w1 : q1.1 2 = q.1 2 := by rw [e1, dui_o (by decide)]
  have t400 : Int32.toInt (400 * q1.1 2 32) = 400 * Int32.toInt (q.1 2 32) := by rw [w1]; exact ti_mul (by decide) rfl (by omega) (by omega)
  have hT2 : TS q2 := by rw [e2]; exact ts_f hT1 (ti_rg _).1 (ti_rg _).2
  have w2 : q2.1 2 = q.1 2 := by rw [e2, dui_o (by decide)]; exact w1
  have t33 : Int32.toInt (33 + q2.1 2 32) = 33 + Int32.toInt (q.1 2 32) := by rw [w2]; exact ti_add (by decide) rfl (by omega) (by omega)
  refine dOk_G (dg_ok (by omega) (by omega)) (dOk_L (fun v4 e4 => dOk_L (fun q5 e5 => ?_)))
  obtain ⟨t, ht⟩ : ∃ t : Nat, (t : Int) = Int32.toInt (q.1 2 32) := ⟨(Int32.toInt (q.1 2 32)).toNat, by omega⟩
  have n33 : Int32.toNatClampNeg (33 + q2.1 2 32) = 33 + t := by
    have := cl_eq (i := 33 + q2.1 2 32) (by omega)
    omega
  have e4' : v4 = q.1 2 (33 + t) := by rw [e4, n33, w2]
  have f4 := te_2z hT (i := 33 + t) (by omega) (by omega)
  rw [← e4'] at f4
  have hT5 : TS q5 := by rw [e5]; exact ts_f hT2 (ti_rg _).1 (ti_rg _).2
  have w5 : q5.1 2 = q.1 2 := by rw [e5, dui_o (by decide)]; exact w2
  have g2 : q2.1 0 22 = 400 * q1.1 2 32 := by rw [e2, dui_e]
  have g5 : Int32.toInt (q5.1 0 22) = 400 * (t : Int) := by rw [e5, dui_n (by decide), g2, t400]; omega
  have g23 : Int32.toInt (q5.1 0 23) = 400 * (t : Int) + v4.toInt := by
    rw [e5, dui_e]
    exact (ti_add (A := 400 * (t : Int)) (B := v4.toInt) (by rw [g2, t400]; omega) rfl (by omega) (by omega))
  have g25 : Int32.toInt (q5.1 0 25) = 0 := by rw [e5, dui_n (by decide), e2, dui_n (by decide), e1, dui_e]; decide
  have hF5 : dFr [] [22, 23, 24, 25] q q5 := by
    rw [e5]
    refine dFr.f ?_ (by decide)
    rw [e2]
    refine dFr.f ?_ (by decide)
    rw [e1]
    exact dFr.rf.f (by decide)
  have hE : lawE (q.1 2) t = 400 * t + v4.toInt.toNat := by unfold lawE; rw [← e4']
  have hL := hT.2.1.2 t (by omega) (by omega)
  unfold LawOk at hL
  have hQ5 : EvQ false (q.1 2) (lawE (q.1 2) t) (400 * t) q5 := ⟨hT5, w5, by omega, by rw [hE]; omega, by rw [hE]; omega, g25, by rw [hE]; omega⟩
  exact ok_tells_L q p2 (q.1 2) (lawE (q.1 2) t) (400 * t) hL q5 hQ5 hF5 p1 _ (fun h => by rw [i2l]; exact h)
