def gTimes (C V : Nat → Int) (m j : Nat) : Prop := (C m = 26 ∧ C (m + 1) = 50 ∧ 1 ≤ V (m + 1) ∧ V (m + 1) ≤ 20 ∧ gIf true C V (m + 2) j) ∨ (¬ C m = 26 ∧ gIf true C V m j)
def gOrder (C V : Nat → Int) (i j : Nat) : Prop := ((C i = 22 ∨ C i = 23 ∨ C i = 24) ∧ ∃ m : Nat, gSum true C V 8 (i + 1) m ∧ gTimes C V m j) ∨ (C i = 25 ∧ gTimes C V (i + 1) j)
def gOne (o : Bool) (C V : Nat → Int) (i j : Nat) : Prop := match o with
  | false => gClause C V i j
  | true => gOrder C V i j
theorem d80 : (0 : Int32).toInt = 8 - ((8 : Nat) : Int) := by decide
theorem pr_ifC {o : Bool} {n : Nat} {c v : Nat → Int32} {m : Nat} {q : dS} (h : PQ o n c v m q) : dOk (zX10_readClause_29 q) (fun Q => PR o n c v q m (gIf o (pC n c) (pV v) m) Q) := by
  unfold zX10_readClause_29 zX10_readClause_42
  refine dOk_B (pr_takes 4 (by decide) h) (fun r q3 hr => ?_)
  rcases hr with ⟨e, z1, z2, z3, z4, z5⟩ | ⟨e, e5, y1⟩
  · have e : r = 1 := e
    subst e
    rw [if_neg (by decide)]
    refine dOk_V (pr_test 10 8 (by decide) (by decide) q3 0 (m + 1) z4 d80) (fun q6 h6 => dOk_some ?_)
    obtain ⟨j, hj, h6, hF6, hX6⟩ := h6
    exact ⟨j, by omega, h6, fr_pt z5 hF6, fun z => ⟨z1, Or.inl ⟨z3, (hX6 z).2⟩⟩⟩
  · have e : r = 0 := e
    have e5 : q3 = q := e5
    subst e e5
    rw [if_pos rfl]
    exact dOk_some ⟨m, Nat.le_refl m, h, dFr.rf, fun z => ⟨z, Or.inr ⟨y1 z, rfl⟩⟩⟩
theorem pr_ifO {o : Bool} {n : Nat} {c v : Nat → Int32} {m : Nat} {q : dS} (h : PQ o n c v m q) : dOk (zX10_readOrder_57 q) (fun Q => PR o n c v q m (gIf o (pC n c) (pV v) m) Q) := by
  unfold zX10_readOrder_57 zX10_readOrder_70
  refine dOk_B (pr_takes 4 (by decide) h) (fun r q3 hr => ?_)
  rcases hr with ⟨e, z1, z2, z3, z4, z5⟩ | ⟨e, e5, y1⟩
  · have e : r = 1 := e
    subst e
    rw [if_neg (by decide)]
    refine dOk_V (pr_test 10 8 (by decide) (by decide) q3 0 (m + 1) z4 d80) (fun q6 h6 => dOk_some ?_)
    obtain ⟨j, hj, h6, hF6, hX6⟩ := h6
    exact ⟨j, by omega, h6, fr_pt z5 hF6, fun z => ⟨z1, Or.inl ⟨z3, (hX6 z).2⟩⟩⟩
  · have e : r = 0 := e
    have e5 : q3 = q := e5
    subst e e5
    rw [if_pos rfl]
    exact dOk_some ⟨m, Nat.le_refl m, h, dFr.rf, fun z => ⟨z, Or.inr ⟨y1 z, rfl⟩⟩⟩
theorem pr_clause {n : Nat} {c v : Nat → Int32} {i : Nat} {q : dS} (h : PQ false n c v i q) : dOk (zX10_readClause q) (fun Q => PR false n c v q i (gClause (pC n c) (pV v) i) Q) := by
  have h29 : ∀ (q1 : dS) (m : Nat), i ≤ m → PQ false n c v m q1 → dFr [] [19, 20, 21] q q1 → (fn q1 → fn q) → (∀ j : Nat, fn q1 → gIf false (pC n c) (pV v) m j → gClause (pC n c) (pV v) i j) → dOk (zX10_readClause_29 q1) (fun Q => PR false n c v q i (gClause (pC n c) (pV v) i) Q) := by
    intro q1 m him h1 hF1 hf1 hX
    exact dOk_mono (pr_ifC h1) (fun Q hQ => PR.bind him hF1 hf1 hQ hX)
  unfold zX10_readClause
  refine dOk_B (pr_takes 1 (by decide) h) (fun r q3 hr => ?_)
  rcases hr with ⟨e, z1, z2, z3, z4, z5⟩ | ⟨e, e5, y1⟩
  · have e : r = 1 := e
    subst e
    rw [if_neg (by decide)]
    refine dOk_V (pr_sum 10 8 (by decide) (by decide) q3 0 (i + 1) z4 d80) (fun q12 h12 => ?_)
    obtain ⟨m, hm, h12, hF12, hX12⟩ := h12
    exact h29 q12 m (by omega) h12 (fr_pt z5 hF12) (fun _ => z1) (fun j hf hj => Or.inl ⟨z3, m, (hX12 hf).2, hj⟩)
  have e : r = 0 := e
  have e5 : q3 = q := e5
  subst e e5
  rw [if_pos rfl]
  refine dOk_B (pr_takes 2 (by decide) h) (fun r4 q6 hr => ?_)
  rcases hr with ⟨e, z1, z2, z3, z4, z5⟩ | ⟨e, e5, y2⟩
  · have e : r4 = 1 := e
    subst e
    rw [if_neg (by decide)]
    exact h29 q6 (i + 1) (by omega) z4 z5 (fun _ => z1) (fun j _ hj => Or.inr ⟨Or.inl z3, hj⟩)
  have e : r4 = 0 := e
  have e5 : q6 = q3 := e5
  subst e e5
  rw [if_pos rfl]
  refine dOk_V (pr_must 3 (by decide) h) (fun q9 h9 => ?_)
  obtain ⟨m, hm, h9, hF9, hX9⟩ := h9
  refine h29 q9 m hm h9 hF9 (fun z => (hX9 z).1) (fun j hf hj => ?_)
  obtain ⟨_, rfl, z3⟩ := hX9 hf
  exact Or.inr ⟨Or.inr z3, hj⟩
theorem pr_order {n : Nat} {c v : Nat → Int32} {i : Nat} {q : dS} (h : PQ true n c v i q) : dOk (zX10_readOrder q) (fun Q => PR true n c v q i (gOrder (pC n c) (pV v) i) Q) := by
  have h41 : ∀ (q1 : dS) (m : Nat), i ≤ m → PQ true n c v m q1 → dFr [] [19, 20, 21] q q1 → (fn q1 → fn q) → (∀ j : Nat, fn q1 → gTimes (pC n c) (pV v) m j → gOrder (pC n c) (pV v) i j) → dOk (zX10_readOrder_41 q1) (fun Q => PR true n c v q i (gOrder (pC n c) (pV v) i) Q) := by
    intro q1 m him h1 hF1 hf1 hX
    unfold zX10_readOrder_41
    refine dOk_B (pr_takes 26 (by decide) h1) (fun r q3 hr => ?_)
    rcases hr with ⟨e, z1, z2, z3, z4, z5⟩ | ⟨e, e5, y1⟩
    · have e : r = 1 := e
      subst e
      rw [if_neg (by decide)]
      refine dOk_V (pr_number 1 20 z4) (fun q6 h6 => ?_)
      obtain ⟨m2, hm2, h6, hF6, hX6⟩ := h6
      refine dOk_mono (pr_ifO h6) (fun Q hQ => PR.bind (show i ≤ m2 by omega) (fr_pt hF1 (fr_pt z5 hF6)) (fun _ => hf1 z1) hQ (fun j hf hj => hX j z1 ?_))
      obtain ⟨_, rfl, w1, w2, w3⟩ := hX6 hf
      have d1 : (1 : Int32).toInt = 1 := by decide
      have d20 : (20 : Int32).toInt = 20 := by decide
      have z3 : pC n c m = 26 := z3
      exact Or.inl ⟨z3, w1, by omega, by omega, hj⟩
    · have e : r = 0 := e
      have e5 : q3 = q1 := e5
      subst e e5
      rw [if_pos rfl]
      exact dOk_mono (pr_ifO h1) (fun Q hQ => PR.bind him hF1 hf1 hQ (fun j hf hj => hX j hf (Or.inr ⟨y1 hf, hj⟩)))
  have h27 : ∀ q1 : dS, PQ true n c v (i + 1) q1 → dFr [] [19, 20, 21] q q1 → fn q → (pC n c i = 22 ∨ pC n c i = 23 ∨ pC n c i = 24) → dOk (zX10_readOrder_27 q1) (fun Q => PR true n c v q i (gOrder (pC n c) (pV v) i) Q) := by
    intro q1 h1 hF1 hfq hc
    unfold zX10_readOrder_27
    refine dOk_V (pr_sum 10 8 (by decide) (by decide) q1 0 (i + 1) h1 d80) (fun q12 h12 => ?_)
    obtain ⟨m, hm, h12, hF12, hX12⟩ := h12
    exact h41 q12 m (by omega) h12 (fr_pt hF1 hF12) (fun _ => hfq) (fun j hf hj => Or.inl ⟨hc, m, (hX12 hf).2, hj⟩)
  unfold zX10_readOrder
  refine dOk_B (pr_takes 22 (by decide) h) (fun r q3 hr => ?_)
  rcases hr with ⟨e, z1, z2, z3, z4, z5⟩ | ⟨e, e5, y1⟩
  · have e : r = 1 := e
    subst e
    rw [if_neg (by decide)]
    exact h27 q3 z4 z5 z1 (Or.inl z3)
  have e : r = 0 := e
  have e5 : q3 = q := e5
  subst e e5
  rw [if_pos rfl]
  refine dOk_B (pr_takes 23 (by decide) h) (fun r4 q6 hr => ?_)
  rcases hr with ⟨e, z1, z2, z3, z4, z5⟩ | ⟨e, e5, y2⟩
  · have e : r4 = 1 := e
    subst e
    rw [if_neg (by decide)]
    exact h27 q6 z4 z5 z1 (Or.inr (Or.inl z3))
  have e : r4 = 0 := e
  have e5 : q6 = q3 := e5
  subst e e5
  rw [if_pos rfl]
  refine dOk_B (pr_takes 24 (by decide) h) (fun r7 q9 hr => ?_)
  rcases hr with ⟨e, z1, z2, z3, z4, z5⟩ | ⟨e, e5, y2⟩
  · have e : r7 = 1 := e
    subst e
    rw [if_neg (by decide)]
    exact h27 q9 z4 z5 z1 (Or.inr (Or.inr z3))
  have e : r7 = 0 := e
  have e5 : q9 = q6 := e5
  subst e e5
  rw [if_pos rfl]
  refine dOk_V (pr_must 25 (by decide) h) (fun q12 h12 => ?_)
  obtain ⟨m, hm, h12, hF12, hX12⟩ := h12
  refine h41 q12 m hm h12 hF12 (fun z => (hX12 z).1) (fun j hf hj => ?_)
  obtain ⟨_, rfl, z3⟩ := hX12 hf
  exact Or.inr ⟨z3, hj⟩
theorem pr_one {o : Bool} {n : Nat} {c v : Nat → Int32} {i : Nat} {q : dS} (h : PQ o n c v i q) : dOk (zX10_readOne q) (fun Q => PR o n c v q i (gOne o (pC n c) (pV v) i) Q) := by
  have h10 := h.2.2.2.2.2.2.2.2.1
  unfold zX10_readOne zX10_readOne_18
  cases o with
  | false =>
    rw [if_pos (Int32.toInt_inj.mp h10)]
    exact dOk_V (pr_clause h) (fun q3 h3 => dOk_some h3)
  | true =>
    rw [if_neg (fun z => by rw [z] at h10; exact absurd h10 (by decide))]
    exact dOk_V (pr_order h) (fun q3 h3 => dOk_some h3)
/-- a text that was read -/
def TxtOk (o : Bool) (q : dS) : Prop := ∃ n : Nat, n ≤ 400 ∧ (q.1 0 18).toInt = (n : Int) ∧ gSeq (fun i => pC n (q.1 9) i = 159) (gOne o (pC n (q.1 9)) (pV (q.1 10))) 0 n
theorem fr_r {q q1 : dS} (h : dFr [] [19, 20, 21] q q1) : dFr [9, 10, 11] [13, 14, 18, 19, 20, 21] q q1 := h.w (by decide) (by decide)
theorem fr_rt {q q1 q2 : dS} (h : dFr [9, 10, 11] [13, 14, 18, 19, 20, 21] q q1) (h2 : dFr [] [19, 20, 21] q1 q2) : dFr [9, 10, 11] [13, 14, 18, 19, 20, 21] q q2 := h.t h2 (by decide) (by decide)
/-- the same, and nothing is on the tape any more -/
def rF (q x : dS) : Prop := dFr [9, 10, 11] [13, 14, 18, 19, 20, 21] q x ∧ x.1 0 13 = 0
theorem rF_rt {q q1 q2 : dS} (h : rF q q1) (h2 : dFr [] [19, 20, 21] q1 q2) : rF q q2 := ⟨fr_rt h.1 h2, (h2.2 13 (by decide)).trans h.2⟩
theorem rF_f {q q1 : dS} {k : Nat} {v : Int32} (h : rF q q1) (hk : k ∈ [14, 18, 19, 20, 21]) : rF q (dui q1 0 k v) := by
  refine ⟨h.1.f (List.mem_cons_of_mem _ hk), ?_⟩
  rw [dui_n (fun z => by rw [← z] at hk; exact absurd hk (by decide))]
  exact h.2
theorem ok_reads (o : Bool) (q : dS) (hT : TS q) (h10 : (q.1 0 10).toInt = bI o) (h8 : (q.1 0 8).toInt = loW o) (h9 : (q.1 0 9).toInt = hiW o) : dOk (zX10_reads q) (fun r => TS r.2 ∧ rF q r.2 ∧ (r.1.toInt = 0 ∨ (r.1.toInt = 1 ∧ TxtOk o r.2))) := by
  unfold zX10_reads
  have f13 : 0 ≤ Int32.toInt (q.1 0 13) ∧ Int32.toInt (q.1 0 13) ≤ 400 := hT.1 0 13
  refine dOk_V (ok_splits q (q.1 0 13) hT f13.1 f13.2) (fun q3 h3 => ?_)
  obtain ⟨hT3, hF3, t0, t1, t2⟩ := h3
  refine dOk_L (fun q4 e4 => dOk_L (fun q5 e5 => dOk_L (fun q6 e6 => dOk_L (fun q7 e7 => ?_))))
  have hT4 : TS q4 := by rw [e4]; exact ts_f hT3 (by decide) (by decide)
  have hT5 : TS q5 := by rw [e5]; exact ts_f hT4 (by decide) (by decide)
  have hT6 : TS q6 := by rw [e6]; exact ts_f hT5 (by decide) (by decide)
  have hT7 : TS q7 := by rw [e7]; exact ts_f hT6 (by decide) (by decide)
  have hF37 : rF q q7 := by
    refine ⟨?_, by rw [e7, dui_n (by decide), e6, dui_n (by decide), e5, dui_n (by decide), e4, dui_e]⟩
    rw [e7]; refine dFr.f ?_ (by decide)
    rw [e6]; refine dFr.f ?_ (by decide)
    rw [e5]; refine dFr.f ?_ (by decide)
    rw [e4]; refine dFr.f ?_ (by decide)
    exact hF3.w (by decide) (by decide)
  have fld : ∀ k : Nat, ¬ k = 13 → ¬ k = 19 → ¬ k = 20 → ¬ k = 21 → q7.1 0 k = q3.1 0 k := by
    intro k k1 k2 k3 k4
    rw [e7, dui_n k4, e6, dui_n k3, e5, dui_n k2, e4, dui_n k1]
  have row : ∀ j : Nat, ¬ j = 0 → q7.1 j = q3.1 j := by
    intro j hj
    rw [e7, dui_o hj, e6, dui_o hj, e5, dui_o hj, e4, dui_o hj]
  obtain ⟨n, hn⟩ : ∃ n : Nat, (n : Int) = Int32.toInt (q3.1 0 18) := ⟨(Int32.toInt (q3.1 0 18)).toNat, by omega⟩
  have hcl : Int32.toNatClampNeg (q3.1 0 18) = n := by
    have := cl_eq (i := q3.1 0 18) t0
    omega
  rw [hcl] at t2
  have g19 : Int32.toInt (q7.1 0 19) = 0 := by rw [e7, dui_n (by decide), e6, dui_n (by decide), e5, dui_e]; decide
  have hPQ : PQ o n (q7.1 9) (q7.1 10) 0 q7 := by
    refine ⟨hT7, rfl, rfl, ?_, by omega, ?_, ?_, Nat.zero_le n, ?_, ?_, ?_⟩
    · rw [fld 18 (by decide) (by decide) (by decide) (by decide)]; omega
    · rw [row 9 (by decide)]; exact t2
    · rw [g19]; rfl
    · rw [fld 10 (by decide) (by decide) (by decide) (by decide), hF3.2 10 (by decide)]; exact h10
    · rw [fld 8 (by decide) (by decide) (by decide) (by decide), hF3.2 8 (by decide)]; exact h8
    · rw [fld 9 (by decide) (by decide) (by decide) (by decide), hF3.2 9 (by decide)]; exact h9
  generalize hc : q7.1 9 = c at hPQ
  generalize hv : q7.1 10 = v at hPQ
  refine dOk_V (pr_one hPQ) (fun q10 h10' => ?_)
  obtain ⟨m0, hm0, h10', hF10, hX10⟩ := h10'
  have h95 : ∀ (q1 : dS) (m : Nat), PQ o n c v m q1 → rF q q1 → (fn q1 → gSeq (fun i => pC n c i = 159) (gOne o (pC n c) (pV v)) 0 n) → dOk (zX10_reads_95 q1) (fun r => TS r.2 ∧ rF q r.2 ∧ (r.1.toInt = 0 ∨ (r.1.toInt = 1 ∧ TxtOk o r.2))) := by
    intro q1 m h1 hF1 hX1
    unfold zX10_reads_95
    refine dOk_L (fun q2 e2 => ?_)
    have hT2 : TS q2 := by rw [e2]; exact ts_f h1.1 (ti_rg _).1 (ti_rg _).2
    have hF2 : rF q q2 := by rw [e2]; exact rF_f hF1 (by decide)
    refine dOk_B (pr_fine q2) (fun r q4 hr => ?_)
    obtain ⟨e3, hr⟩ := hr
    have e3 : q4 = q2 := e3
    subst e3
    rcases hr with ⟨e, hf⟩ | ⟨e, hf⟩
    · have e : r = 1 := e
      subst e
      refine dOk_G (by decide) (dOk_some ⟨hT2, hF2, Or.inr ⟨by show Int32.toInt 1 = 1; decide, ?_⟩⟩)
      show TxtOk o q4
      have hf1 : fn q1 := by
        unfold fn at *
        rw [e2, dui_n (by decide)] at hf
        exact hf
      refine ⟨n, h1.2.2.2.2.1, ?_, ?_⟩
      · rw [e2, dui_n (by decide)]; exact h1.2.2.2.1
      · rw [e2, dui_o (by decide), dui_o (by decide), h1.2.1, h1.2.2.1]; exact hX1 hf1
    · have e : r = 0 := e
      subst e
      exact dOk_G (by decide) (dOk_some ⟨hT2, hF2, Or.inl (by show Int32.toInt 0 = 0; decide)⟩)
  unfold zX10_reads_34
  refine dFix_ok (fun (a : dS × Int32) => ∃ m : Nat, PQ o n c v m a.1 ∧ rF q a.1 ∧ (fn a.1 → ∀ j : Nat, ((¬ pC n c m = 159 ∧ j = m) ∨ (pC n c m = 159 ∧ gSeq (fun i => pC n c i = 159) (gOne o (pC n c) (pV v)) (m + 1) j)) → gSeq (fun i => pC n c i = 159) (gOne o (pC n c) (pV v)) 0 j)) (fun (a : dS × Int32) => (401 - Int32.toInt (a.1.1 0 19)).toNat) ?_ _ ⟨m0, h10', rF_rt hF37 hF10, fun z j hj => gSeq_cons (hX10 z).2 hj⟩ _ (dF_gt ?_)
  · intro a ha k hk
    obtain ⟨qa, x1⟩ := a
    obtain ⟨m, h, hF, hX⟩ := ha
    replace h : PQ o n c v m qa := h
    replace hF : rF q qa := hF
    replace hX : fn qa → ∀ j : Nat, ((¬ pC n c m = 159 ∧ j = m) ∨ (pC n c m = 159 ∧ gSeq (fun i => pC n c i = 159) (gOne o (pC n c) (pV v)) (m + 1) j)) → gSeq (fun i => pC n c i = 159) (gOne o (pC n c) (pV v)) 0 j := hX
    have h19 := h.2.2.2.2.2.2.1
    have hmn := h.2.2.2.2.2.2.2.1
    have hn400 := h.2.2.2.2.1
    show dOk (zX10_reads_34b (fun q x1 => k (q, x1)) qa x1) _
    unfold zX10_reads_34b
    refine dOk_V (sg 59 (by decide) (by decide)) (fun r1 hr1 => ?_)
    have hr1 : r1.toInt = 159 := hr1
    refine dOk_B (pr_takes r1 (by omega) h) (fun r3 q5 hr => ?_)
    rcases hr with ⟨e, z1, z2, z3, z4, z5⟩ | ⟨e, e5, y1⟩
    · have e : r3 = 1 := e
      subst e
      rw [if_neg (by decide)]
      have h56 : ∀ q6 : dS, PQ o n c v (m + 1) q6 → dFr [] [19, 20, 21] qa q6 → dOk (zX10_reads_56 (fun q x1 => k (q, x1)) q6 x1) (fun r => TS r.2 ∧ rF q r.2 ∧ (r.1.toInt = 0 ∨ (r.1.toInt = 1 ∧ TxtOk o r.2))) := by
        intro q6 h6 hF6
        unfold zX10_reads_56 zX10_reads_67
        have h19' := h6.2.2.2.2.2.2.1
        have hn' := h6.2.2.2.2.2.2.2.1
        refine dOk_B (pr_fine q6) (fun r q7 hr => ?_)
        obtain ⟨e3, hr⟩ := hr
        have e3 : q7 = q6 := e3
        subst e3
        rcases hr with ⟨e, hf⟩ | ⟨e, hf⟩
        · have e : r = 1 := e
          subst e
          rw [if_neg (by decide)]
          refine dOk_V (pr_one h6) (fun q8 h8' => ?_)
          obtain ⟨m', hm', h8', hF8, hX8⟩ := h8'
          have h19'' := h8'.2.2.2.2.2.2.1
          have hn'' := h8'.2.2.2.2.2.2.2.1
          refine hk (q8, x1 + 1) ⟨m', h8', rF_rt (rF_rt hF hF6) hF8, fun z j hj => hX z1 j (Or.inr ⟨by omega, gSeq_cons (hX8 z).2 hj⟩)⟩ ?_
          show (401 - Int32.toInt (q8.1 0 19)).toNat < (401 - Int32.toInt (qa.1 0 19)).toNat
          omega
        · have e : r = 0 := e
          subst e
          rw [if_pos rfl]
          refine hk (q7, x1 + 1) ⟨m + 1, h6, rF_rt hF hF6, fun z => absurd z hf⟩ ?_
          show (401 - Int32.toInt (q7.1 0 19)).toNat < (401 - Int32.toInt (qa.1 0 19)).toNat
          omega
      refine dOk_eq rfl rfl (fun _ _ => ?_) (fun _ _ => h56 q5 z4 z5)
      exact dOk_V (pr_faults z4) (fun q14 h14 => h56 q14 h14.1 (fr_pt z5 h14.2.1))
    · have e : r3 = 0 := e
      have e5 : q5 = qa := e5
      subst e e5
      rw [if_pos rfl]
      refine dOk_B (pr_fine q5) (fun r q8 hr => ?_)
      obtain ⟨e3, hr⟩ := hr
      have e3 : q8 = q5 := e3
      subst e3
      rcases hr with ⟨e, hf⟩ | ⟨e, hf⟩
      · have e : r = 1 := e
        subst e
        rw [if_neg (by decide)]
        refine dOk_le h.2.2.2.1 h19 (fun z => ?_) (fun z => ?_)
        · refine h95 q8 m h hF (fun z2 => hX z2 n (Or.inl ⟨?_, by omega⟩))
          have := y1 z2
          omega
        · exact dOk_V (pr_faults h) (fun q11 h11 => h95 q11 m h11.1 (rF_rt hF h11.2.1) (fun z2 => absurd z2 h11.2.2))
      · have e : r = 0 := e
        subst e
        rw [if_pos rfl]
        exact h95 q8 m h hF (fun z2 => absurd z2 hf)
  · have := h10'.2.2.2.2.2.2.1
    show (401 - Int32.toInt (q10.1 0 19)).toNat < 1000000000000
    omega
