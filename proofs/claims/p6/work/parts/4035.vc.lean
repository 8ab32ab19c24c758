theorem gSeq_cons {op : Nat → Prop} {X : Nat → Nat → Prop} {i m j : Nat} (h : X i m) (h2 : (¬ op m ∧ j = m) ∨ (op m ∧ gSeq op X (m + 1) j)) : gSeq op X i j := by
  rcases h2 with ⟨h2, rfl⟩ | ⟨h2, k, h3⟩
  · exact ⟨0, h, h2⟩
  · exact ⟨k + 1, m, h, h2, h3⟩
def PrS (o : Bool) (n : Nat) (c v : Nat → Int32) (d : Nat) (X : Nat → Nat → Prop) (z : dS → Int32 → Option dS) : Prop := ∀ (q : dS) (p1 : Int32) (i : Nat), PQ o n c v i q → p1.toInt = 8 - (d : Int) → dOk (z q p1) (fun Q => PR o n c v q i (X i) Q)
theorem gPart_leaf {o : Bool} {C V : Nat → Int} {d i j : Nat} (h : gLeaf o C V i j) : gPart o C V d i j := by
  cases d with
  | zero => exact h
  | succ d => exact Or.inl h
theorem pr_part {kS : dS → Int32 → Option dS} {o : Bool} {n : Nat} {c v : Nat → Int32} (d : Nat) (hd : d ≤ 8) (hk : ∀ d', d = d' + 1 → PrS o n c v d' (gSum o (pC n c) (pV v) d') kS) : PrS o n c v d (gPart o (pC n c) (pV v) d) (zX10_readPart kS) := by
  intro q p1 i h hp
  unfold zX10_readPart
  refine dOk_B (pr_fine q) (fun r q3 hr => ?_)
  obtain ⟨e3, hr⟩ := hr
  have e3 : q3 = q := e3
  subst e3
  rcases hr with ⟨e, hf⟩ | ⟨e, hf⟩
  rotate_left
  · have e : r = 0 := e
    subst e
    rw [if_pos rfl]
    exact dOk_some (PR.no (Nat.le_refl i) h dFr.rf hf)
  have e : r = 1 := e
  subst e
  rw [if_neg (by decide)]
  obtain ⟨g1, g2, g3⟩ := pr_code h
  refine dOk_G g1 (dOk_L (fun v5 e5 => ?_))
  rw [← e5] at g2
  have h37n : ∀ (q1 : dS), PQ o n c v i q1 → dFr [] [19, 20, 21] q3 q1 → ¬ fn q1 → dOk (zX10_readPart_37 kS q1 p1) (fun Q => PR o n c v q3 i (gPart o (pC n c) (pV v) d i) Q) := by
    intro q1 h1 hF1 hn1
    unfold zX10_readPart_37
    refine dOk_B (pr_fine q1) (fun r q4 hr => ?_)
    obtain ⟨e3, hr⟩ := hr
    have e3 : q4 = q1 := e3
    subst e3
    rcases hr with ⟨e, hf⟩ | ⟨e, hf⟩
    · exact absurd hf hn1
    · have e : r = 0 := e
      subst e
      rw [if_pos rfl]
      exact dOk_some (PR.no (Nat.le_refl i) h1 hF1 hf)
  refine dOk_V (sg 91 (by decide) (by decide)) (fun r6 hr6 => ?_)
  have hr6 : r6.toInt = 191 := hr6
  refine dOk_eq rfl rfl (fun _ z191 => ?_) (fun _ z191 => ?_)
  · have hi : i < n := pC_in (c := c) (by omega)
    refine dOk_eq (A := p1.toInt) (B := 8) rfl (by decide) (fun _ z8 => ?_) (fun _ z8 => ?_)
    · exact dOk_V (pr_faults h) (fun q12 h12 => h37n q12 h12.1 h12.2.1 h12.2.2)
    · obtain ⟨d', rfl⟩ : ∃ d', d = d' + 1 := ⟨d - 1, by omega⟩
      unfold zX10_readPart_37 zX10_readPart_147
      refine dOk_B (pr_fine q3) (fun r q4 hr => ?_)
      obtain ⟨e3, hr⟩ := hr
      have e3 : q4 = q3 := e3
      subst e3
      rcases hr with ⟨e, hf4⟩ | ⟨e, hf4⟩
      rotate_left
      · exact absurd hf hf4
      have e : r = 1 := e
      subst e
      rw [if_neg (by decide)]
      refine dOk_L (fun q5 e6 => ?_)
      have h5 : PQ o n c v (i + 1) q5 := by rw [e6]; exact pq_tok h hi
      have hF5 : dFr [] [19, 20, 21] q4 q5 := by rw [e6]; exact fr_p (by decide)
      have tp : Int32.toInt (p1 + 1) = p1.toInt + 1 := ti_add rfl (by decide) (by omega) (by omega)
      refine dOk_V (hk d' rfl q5 (p1 + 1) (i + 1) h5 (by omega)) (fun q7 h7 => ?_)
      obtain ⟨j, hj, h7, hF7, hX7⟩ := h7
      refine dOk_V (sg 93 (by decide) (by decide)) (fun r8 hr8 => ?_)
      have hr8 : r8.toInt = 193 := hr8
      refine dOk_V (pr_must r8 (by omega) h7) (fun q12 h12 => dOk_some ?_)
      obtain ⟨j2, hj2, h12, hF12, hX12⟩ := h12
      refine ⟨j2, by omega, h12, fr_pt hF5 (fr_pt hF7 hF12), fun z => ⟨hf, ?_⟩⟩
      obtain ⟨z1, rfl, z3⟩ := hX12 z
      exact Or.inr ⟨by omega, j, (hX7 z1).2, by omega, rfl⟩
  · have h111 : ∀ x2 : Int32, x2.toInt = pC n c i → (x2.toInt = 50 ∨ (loW o ≤ x2.toInt ∧ x2.toInt ≤ hiW o)) → dOk (zX10_readPart_111 kS q3 x2) (fun Q => PR o n c v q3 i (gPart o (pC n c) (pV v) d i) Q) := by
      intro x2 hx2 hx
      have hlo : 8 ≤ loW o := by cases o <;> decide
      have hi : i < n := pC_in (c := c) (by omega)
      unfold zX10_readPart_111 zX10_readPart_134 zX10_readPart_147
      refine dOk_V (pr_leaf hi h) (fun q4 h4 => ?_)
      obtain ⟨j, hj, h4, hF4, hX4⟩ := h4
      have h10 := h4.2.2.2.2.2.2.2.2.1
      cases o with
      | false =>
        rw [if_pos (Int32.toInt_inj.mp h10)]
        refine dOk_some ⟨j, hj, h4, hF4, fun z => ⟨hf, gPart_leaf ?_⟩⟩
        show gLeafL (pC n c) i j
        unfold gLeafL
        have z2 := (hX4 z).2
        have : loW false = 8 := rfl
        have : hiW false = 16 := rfl
        omega
      | true =>
        rw [if_neg (fun z => by rw [z] at h10; exact absurd h10 (by decide))]
        have w1 : loW true = 15 := rfl
        have w2 : hiW true = 21 := rfl
        have hnum : (x2.toInt = 21 ∨ x2.toInt = 15) → dOk (dV (zX10_mustNumber q4 0 5) (fun q3 => some q3)) (fun Q => PR true n c v q3 i (gPart true (pC n c) (pV v) d i) Q) := by
          intro hx'
          refine dOk_V (pr_number 0 5 h4) (fun q6 h6 => dOk_some ?_)
          obtain ⟨j2, hj2, h6, hF6, hX6⟩ := h6
          refine ⟨j2, by omega, h6, fr_pt hF4 hF6, fun z => ⟨hf, gPart_leaf ?_⟩⟩
          obtain ⟨z1, z2, z3, z4, z5⟩ := hX6 z
          have z6 := (hX4 z1).2
          have d0 : (0 : Int32).toInt = 0 := by decide
          have d5 : (5 : Int32).toInt = 5 := by decide
          subst z6
          show gLeafO (pC n c) (pV v) i j2
          unfold gLeafO
          omega
        refine dOk_eq (A := x2.toInt) (B := 21) rfl (by decide) (fun _ z => hnum (Or.inl z)) (fun _ z21 => ?_)
        refine dOk_eq (A := x2.toInt) (B := 15) rfl (by decide) (fun _ z => hnum (Or.inr z)) (fun _ z15 => ?_)
        refine dOk_some ⟨j, hj, h4, hF4, fun z => ⟨hf, gPart_leaf ?_⟩⟩
        show gLeafO (pC n c) (pV v) i j
        unfold gLeafO
        have z2 := (hX4 z).2
        omega
    have h95 : dOk (zX10_readPart_95 kS q3 v5) (fun Q => PR o n c v q3 i (gPart o (pC n c) (pV v) d i) Q) := by
      have h143 : dOk (zX10_readPart_143 kS q3) (fun Q => PR o n c v q3 i (gPart o (pC n c) (pV v) d i) Q) := by
        unfold zX10_readPart_143 zX10_readPart_147
        exact dOk_V (pr_faults h) (fun q6 h6 => dOk_some (PR.no (Nat.le_refl i) h6.1 h6.2.1 h6.2.2))
      unfold zX10_readPart_95
      have h8 := h.2.2.2.2.2.2.2.2.2.1
      have h9 := h.2.2.2.2.2.2.2.2.2.2
      refine dOk_lt rfl h8 (fun _ => h143) (fun z1 => ?_)
      exact dOk_lt h9 rfl (fun _ => h143) (fun z2 => h111 v5 g2 (Or.inr ⟨z1, z2⟩))
    refine dOk_eq (A := v5.toInt) (B := 50) rfl (by decide) (fun _ z50 => ?_) (fun _ _ => h95)
    refine dOk_G g1 (dOk_L (fun v9 e9 => ?_))
    exact dOk_le rfl rfl (fun _ => h111 v5 g2 (Or.inl z50)) (fun _ => h95)
theorem pr_term {kS : dS → Int32 → Option dS} {o : Bool} {n : Nat} {c v : Nat → Int32} {d : Nat} (hp : PrS o n c v d (gPart o (pC n c) (pV v) d) (zX10_readPart kS)) : PrS o n c v d (gSeq (gMul (pC n c)) (gPart o (pC n c) (pV v) d)) (zX10_readTerm kS) := by
  intro q p1 i h hd
  unfold zX10_readTerm
  refine dOk_V (hp q p1 i h hd) (fun q3 h3 => ?_)
  obtain ⟨m0, hm0, h3, hF3, hX3⟩ := h3
  unfold zX10_readTerm_5
  refine dFix_ok (fun (a : dS × Int32) => ∃ m : Nat, i ≤ m ∧ PQ o n c v m a.1 ∧ dFr [] [19, 20, 21] q a.1 ∧ a.2 = p1 ∧ (fn a.1 → fn q ∧ ∀ j : Nat, ((¬ gMul (pC n c) m ∧ j = m) ∨ (gMul (pC n c) m ∧ gSeq (gMul (pC n c)) (gPart o (pC n c) (pV v) d) (m + 1) j)) → gSeq (gMul (pC n c)) (gPart o (pC n c) (pV v) d) i j)) (fun (a : dS × Int32) => (401 - Int32.toInt (a.1.1 0 19)).toNat) ?_ _ ⟨m0, hm0, h3, hF3, rfl, fun z => ⟨(hX3 z).1, fun j hj => gSeq_cons (hX3 z).2 hj⟩⟩ _ (dF_gt ?_)
  · intro a ha k hk
    obtain ⟨qa, x1⟩ := a
    obtain ⟨m, him, h, hF, ex, hX⟩ := ha
    replace h : PQ o n c v m qa := h
    replace hF : dFr [] [19, 20, 21] q qa := hF
    replace ex : x1 = p1 := ex
    replace hX : fn qa → fn q ∧ ∀ j : Nat, ((¬ gMul (pC n c) m ∧ j = m) ∨ (gMul (pC n c) m ∧ gSeq (gMul (pC n c)) (gPart o (pC n c) (pV v) d) (m + 1) j)) → gSeq (gMul (pC n c)) (gPart o (pC n c) (pV v) d) i j := hX
    subst ex
    have h19 := h.2.2.2.2.2.2.1
    show dOk (zX10_readTerm_5b kS (fun q x1 => k (q, x1)) qa x1) _
    have h41 : ∀ q5 : dS, fn qa → gMul (pC n c) m → PQ o n c v (m + 1) q5 → dFr [] [19, 20, 21] qa q5 → fn q5 → dOk (zX10_readTerm_41 kS (fun q x1 => k (q, x1)) q5 x1) (fun Q => PR o n c v q i (gSeq (gMul (pC n c)) (gPart o (pC n c) (pV v) d) i) Q) := by
      intro q5 hfa hop h5 hF5 hf5
      unfold zX10_readTerm_41
      refine dOk_V (hp q5 x1 (m + 1) h5 hd) (fun q6 h6 => ?_)
      obtain ⟨m', hm', h6, hF6, hX6⟩ := h6
      have h19' := h6.2.2.2.2.2.2.1
      have hn' := h6.2.2.2.2.2.2.2.1
      have h400 := h6.2.2.2.2.1
      refine hk (q6, x1) ⟨m', by omega, h6, fr_pt hF (fr_pt hF5 hF6), rfl, fun z => ⟨(hX hfa).1, fun j hj => (hX hfa).2 j (Or.inr ⟨hop, gSeq_cons (hX6 z).2 hj⟩)⟩⟩ ?_
      show (401 - Int32.toInt (q6.1 0 19)).toNat < (401 - Int32.toInt (qa.1 0 19)).toNat
      omega
    unfold zX10_readTerm_5b
    refine dOk_V (sg 42 (by decide) (by decide)) (fun r1 hr1 => ?_)
    have hr1 : r1.toInt = 142 := hr1
    refine dOk_B (pr_takes r1 (by omega) h) (fun r3 q5 hr => ?_)
    rcases hr with ⟨e, z1, z2, z3, z4, z5⟩ | ⟨e, e5, y1⟩
    · have e : r3 = 1 := e
      subst e
      rw [if_neg (by decide)]
      exact h41 q5 z1 (Or.inl (by omega)) z4 z5 z2
    have e : r3 = 0 := e
    have e5 : q5 = qa := e5
    subst e e5
    rw [if_pos rfl]
    refine dOk_V (sg 47 (by decide) (by decide)) (fun r6 hr6 => ?_)
    have hr6 : r6.toInt = 147 := hr6
    refine dOk_B (pr_takes r6 (by omega) h) (fun r8 q10 hr => ?_)
    rcases hr with ⟨e, z1, z2, z3, z4, z5⟩ | ⟨e, e5, y2⟩
    · have e : r8 = 1 := e
      subst e
      rw [if_neg (by decide)]
      exact h41 q10 z1 (Or.inr (Or.inl (by omega))) z4 z5 z2
    have e : r8 = 0 := e
    have e5 : q10 = q5 := e5
    subst e e5
    rw [if_pos rfl]
    refine dOk_V (sg 37 (by decide) (by decide)) (fun r11 hr11 => ?_)
    have hr11 : r11.toInt = 137 := hr11
    refine dOk_B (pr_takes r11 (by omega) h) (fun r13 q15 hr => ?_)
    rcases hr with ⟨e, z1, z2, z3, z4, z5⟩ | ⟨e, e5, y3⟩
    · have e : r13 = 1 := e
      subst e
      rw [if_neg (by decide)]
      exact h41 q15 z1 (Or.inr (Or.inr (by omega))) z4 z5 z2
    have e : r13 = 0 := e
    have e5 : q15 = q10 := e5
    subst e e5
    rw [if_pos rfl]
    refine dOk_some ⟨m, him, h, hF, fun z => ⟨(hX z).1, (hX z).2 m (Or.inl ⟨?_, rfl⟩)⟩⟩
    have := y1 z
    have := y2 z
    have := y3 z
    unfold gMul
    omega
  · have := h3.2.2.2.2.2.2.1
    show (401 - Int32.toInt (q3.1 0 19)).toNat < 1000000000000
    omega
theorem pr_sum_o {kS : dS → Int32 → Option dS} {o : Bool} {n : Nat} {c v : Nat → Int32} {d : Nat} (hp : PrS o n c v d (gSeq (gMul (pC n c)) (gPart o (pC n c) (pV v) d)) (zX10_readTerm kS)) : PrS o n c v d (gSum o (pC n c) (pV v) d) (zX10_readSum_o kS) := by
  intro q p1 i h hd
  unfold zX10_readSum_o
  refine dOk_V (hp q p1 i h hd) (fun q3 h3 => ?_)
  obtain ⟨m0, hm0, h3, hF3, hX3⟩ := h3
  unfold zX10_readSum_5
  refine dFix_ok (fun (a : dS × Int32) => ∃ m : Nat, i ≤ m ∧ PQ o n c v m a.1 ∧ dFr [] [19, 20, 21] q a.1 ∧ a.2 = p1 ∧ (fn a.1 → fn q ∧ ∀ j : Nat, ((¬ gAdd (pC n c) m ∧ j = m) ∨ (gAdd (pC n c) m ∧ gSum o (pC n c) (pV v) d (m + 1) j)) → gSum o (pC n c) (pV v) d i j)) (fun (a : dS × Int32) => (401 - Int32.toInt (a.1.1 0 19)).toNat) ?_ _ ⟨m0, hm0, h3, hF3, rfl, fun z => ⟨(hX3 z).1, fun j hj => gSeq_cons (hX3 z).2 hj⟩⟩ _ (dF_gt ?_)
  · intro a ha k hk
    obtain ⟨qa, x1⟩ := a
    obtain ⟨m, him, h, hF, ex, hX⟩ := ha
    replace h : PQ o n c v m qa := h
    replace hF : dFr [] [19, 20, 21] q qa := hF
    replace ex : x1 = p1 := ex
    replace hX : fn qa → fn q ∧ ∀ j : Nat, ((¬ gAdd (pC n c) m ∧ j = m) ∨ (gAdd (pC n c) m ∧ gSum o (pC n c) (pV v) d (m + 1) j)) → gSum o (pC n c) (pV v) d i j := hX
    subst ex
    have h19 := h.2.2.2.2.2.2.1
    show dOk (zX10_readSum_5b kS (fun q x1 => k (q, x1)) qa x1) _
    have h29 : ∀ q5 : dS, fn qa → gAdd (pC n c) m → PQ o n c v (m + 1) q5 → dFr [] [19, 20, 21] qa q5 → fn q5 → dOk (zX10_readSum_29 kS (fun q x1 => k (q, x1)) q5 x1) (fun Q => PR o n c v q i (gSum o (pC n c) (pV v) d i) Q) := by
      intro q5 hfa hop h5 hF5 hf5
      unfold zX10_readSum_29
      refine dOk_V (hp q5 x1 (m + 1) h5 hd) (fun q6 h6 => ?_)
      obtain ⟨m', hm', h6, hF6, hX6⟩ := h6
      have h19' := h6.2.2.2.2.2.2.1
      have hn' := h6.2.2.2.2.2.2.2.1
      have h400 := h6.2.2.2.2.1
      refine hk (q6, x1) ⟨m', by omega, h6, fr_pt hF (fr_pt hF5 hF6), rfl, fun z => ⟨(hX hfa).1, fun j hj => (hX hfa).2 j (Or.inr ⟨hop, gSeq_cons (hX6 z).2 hj⟩)⟩⟩ ?_
      show (401 - Int32.toInt (q6.1 0 19)).toNat < (401 - Int32.toInt (qa.1 0 19)).toNat
      omega
    unfold zX10_readSum_5b
    refine dOk_V (sg 43 (by decide) (by decide)) (fun r1 hr1 => ?_)
    have hr1 : r1.toInt = 143 := hr1
    refine dOk_B (pr_takes r1 (by omega) h) (fun r3 q5 hr => ?_)
    rcases hr with ⟨e, z1, z2, z3, z4, z5⟩ | ⟨e, e5, y1⟩
    · have e : r3 = 1 := e
      subst e
      rw [if_neg (by decide)]
      exact h29 q5 z1 (Or.inl (by omega)) z4 z5 z2
    have e : r3 = 0 := e
    have e5 : q5 = qa := e5
    subst e e5
    rw [if_pos rfl]
    refine dOk_V (sg 45 (by decide) (by decide)) (fun r6 hr6 => ?_)
    have hr6 : r6.toInt = 145 := hr6
    refine dOk_B (pr_takes r6 (by omega) h) (fun r8 q10 hr => ?_)
    rcases hr with ⟨e, z1, z2, z3, z4, z5⟩ | ⟨e, e5, y2⟩
    · have e : r8 = 1 := e
      subst e
      rw [if_neg (by decide)]
      exact h29 q10 z1 (Or.inr (by omega)) z4 z5 z2
    have e : r8 = 0 := e
    have e5 : q10 = q5 := e5
    subst e e5
    rw [if_pos rfl]
    refine dOk_some ⟨m, him, h, hF, fun z => ⟨(hX z).1, (hX z).2 m (Or.inl ⟨?_, rfl⟩)⟩⟩
    have := y1 z
    have := y2 z
    unfold gAdd
    omega
  · have := h3.2.2.2.2.2.2.1
    show (401 - Int32.toInt (q3.1 0 19)).toNat < 1000000000000
    omega
theorem pr_sum {o : Bool} {n : Nat} {c v : Nat → Int32} : ∀ (k d : Nat), d < k → d ≤ 8 → PrS o n c v d (gSum o (pC n c) (pV v) d) (zX10_readSum k) := by
  intro k
  induction k with
  | zero => intro d hd; omega
  | succ k ih =>
    intro d hd hd8 q p1 i h hp
    have h1 : PrS o n c v d (gSum o (pC n c) (pV v) d) (zX10_readSum_o (zX10_readSum k)) := pr_sum_o (pr_term (pr_part d hd8 (fun d' e' => ih d' (by omega) (by omega))))
    exact h1 q p1 i h hp
