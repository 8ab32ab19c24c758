theorem pr_plain {kT : dS → Int32 → Option dS} {o : Bool} {n : Nat} {c v : Nat → Int32} (d : Nat) (hd8 : d ≤ 8) (hk : ∀ d', d = d' + 1 → PrS o n c v d' (gTest o (pC n c) (pV v) d') kT) : PrS o n c v d (gPlain o (pC n c) (pV v) d) (zX10_readPlain kT) := by
  intro q p1 i h hp
  unfold zX10_readPlain zX10_readPlain_2
  refine dFix_ok (fun (a : dS × Int32 × Int32) => ∃ m : Nat, i ≤ m ∧ PQ o n c v m a.1 ∧ dFr [] [19, 20, 21] q a.1 ∧ a.2.1 = p1 ∧ (a.2.2 = 0 ∨ a.2.2 = 1) ∧ (fn a.1 → fn q ∧ (∀ b : Nat, i ≤ b → b < m → pC n c b = 7) ∧ (a.2.2 = 0 → ¬ pC n c m = 7))) (fun (a : dS × Int32 × Int32) => (2 * (401 - Int32.toInt (a.1.1 0 19)) + Int32.toInt a.2.2).toNat) ?_ _ ⟨i, Nat.le_refl i, h, dFr.rf, rfl, Or.inr rfl, fun z => ⟨z, fun b h1 h2 => by omega, fun z2 => absurd (show (1 : Int32) = 0 from z2) (by decide)⟩⟩ _ (dF_gt ?_)
  · intro a ha k hk2
    obtain ⟨qa, x1, x2⟩ := a
    obtain ⟨m, him, h, hF, ex, hx2, hX⟩ := ha
    replace h : PQ o n c v m qa := h
    replace hF : dFr [] [19, 20, 21] q qa := hF
    replace ex : x1 = p1 := ex
    replace hx2 : x2 = 0 ∨ x2 = 1 := hx2
    replace hX : fn qa → fn q ∧ (∀ b : Nat, i ≤ b → b < m → pC n c b = 7) ∧ (x2 = 0 → ¬ pC n c m = 7) := hX
    subst ex
    have h19 := h.2.2.2.2.2.2.1
    have hmn := h.2.2.2.2.2.2.2.1
    have h400 := h.2.2.2.2.1
    show dOk (zX10_readPlain_2b kT (fun q x1 x2 => k (q, x1, x2)) qa x1 x2) _
    unfold zX10_readPlain_2b
    rcases hx2 with e | e
    rotate_left
    · subst e
      rw [if_neg (by decide)]
      refine dOk_B (pr_takes 7 (by decide) h) (fun r q3 hr => ?_)
      rcases hr with ⟨e, z1, z2, z3, z4, z5⟩ | ⟨e, e5, y1⟩
      · have e : r = 1 := e
        have z3 : pC n c m = 7 := z3
        subst e
        have h19' : Int32.toInt (q3.1 0 19) = ((m + 1 : Nat) : Int) := z4.2.2.2.2.2.2.1
        refine hk2 (q3, x1, 1) ⟨m + 1, by omega, z4, fr_pt hF z5, rfl, Or.inr rfl, fun z => ⟨(hX z1).1, fun b h1 h2 => ?_, fun z9 => absurd (show (1 : Int32) = 0 from z9) (by decide)⟩⟩ ?_
        · rcases Nat.lt_or_ge b m with w | w
          · exact (hX z1).2.1 b h1 w
          · have : b = m := by omega
            rw [this]; exact z3
        · show (2 * (401 - Int32.toInt (q3.1 0 19)) + Int32.toInt 1).toNat < (2 * (401 - Int32.toInt (qa.1 0 19)) + Int32.toInt 1).toNat
          rw [show Int32.toInt 1 = (1 : Int) by decide]
          omega
      · have e : r = 0 := e
        have e5 : q3 = qa := e5
        subst e e5
        refine hk2 (q3, x1, 0) ⟨m, him, h, hF, rfl, Or.inl rfl, fun z => ⟨(hX z).1, (hX z).2.1, fun _ => y1 z⟩⟩ ?_
        have h19 : Int32.toInt (q3.1 0 19) = (m : Int) := h.2.2.2.2.2.2.1
        show (2 * (401 - Int32.toInt (q3.1 0 19)) + Int32.toInt 0).toNat < (2 * (401 - Int32.toInt (q3.1 0 19)) + Int32.toInt 1).toNat
        rw [show Int32.toInt 1 = (1 : Int) by decide, show Int32.toInt 0 = (0 : Int) by decide]
        omega
    subst e
    rw [if_pos rfl]
    refine dOk_B (pr_fine qa) (fun r q3 hr => ?_)
    obtain ⟨e3, hr⟩ := hr
    have e3 : q3 = qa := e3
    subst e3
    rcases hr with ⟨e, hf⟩ | ⟨e, hf⟩
    rotate_left
    · have e : r = 0 := e
      subst e
      rw [if_pos rfl]
      exact dOk_some (PR.no him h hF hf)
    have e : r = 1 := e
    subst e
    rw [if_neg (by decide)]
    have hnots : gNots (pC n c) i m := ⟨(hX hf).2.1, him, (hX hf).2.2 rfl⟩
    have hfq := (hX hf).1
    obtain ⟨g1, g2, g3⟩ := pr_code h
    refine dOk_G g1 (dOk_L (fun v5 e5 => ?_))
    rw [← e5] at g2
    refine dOk_V (sg 40 (by decide) (by decide)) (fun r6 hr6 => ?_)
    have hr6 : r6.toInt = 140 := hr6
    refine dOk_eq rfl rfl (fun _ z140 => ?_) (fun _ z140 => ?_)
    · have hi : m < n := pC_in (c := c) (by omega)
      refine dOk_eq (A := x1.toInt) (B := 8) rfl (by decide) (fun _ z8 => ?_) (fun _ z8 => ?_)
      · refine dOk_V (pr_faults h) (fun q12 h12 => ?_)
        unfold zX10_readPlain_53
        refine dOk_B (pr_fine q12) (fun r q4 hr => ?_)
        obtain ⟨e3, hr⟩ := hr
        have e3 : q4 = q12 := e3
        subst e3
        rcases hr with ⟨e, hf9⟩ | ⟨e, hf9⟩
        · exact absurd hf9 h12.2.2
        · have e : r = 0 := e
          subst e
          rw [if_pos rfl]
          exact dOk_some (PR.no him h12.1 (fr_pt hF h12.2.1) hf9)
      · obtain ⟨d', rfl⟩ : ∃ d', d = d' + 1 := ⟨d - 1, by omega⟩
        unfold zX10_readPlain_53 zX10_readPlain_133
        refine dOk_B (pr_fine q3) (fun r q4 hr => ?_)
        obtain ⟨e3, hr⟩ := hr
        have e3 : q4 = q3 := e3
        subst e3
        rcases hr with ⟨e, hf4⟩ | ⟨e, hf4⟩
        rotate_left
        · exact absurd hf hf4
        have e : r = 1 := e
        subst e
        rw [if_neg (by decide)]
        refine dOk_L (fun q5 e6 => ?_)
        have h5 : PQ o n c v (m + 1) q5 := by rw [e6]; exact pq_tok h hi
        have hF5 : dFr [] [19, 20, 21] q4 q5 := by rw [e6]; exact fr_p (by decide)
        have tp : Int32.toInt (x1 + 1) = x1.toInt + 1 := ti_add rfl (by decide) (by omega) (by omega)
        refine dOk_V (hk d' rfl q5 (x1 + 1) (m + 1) h5 (by omega)) (fun q7 h7 => ?_)
        obtain ⟨j, hj, h7, hF7, hX7⟩ := h7
        refine dOk_V (sg 41 (by decide) (by decide)) (fun r8 hr8 => ?_)
        have hr8 : r8.toInt = 141 := hr8
        refine dOk_V (pr_must r8 (by omega) h7) (fun q12 h12 => dOk_some ?_)
        obtain ⟨j2, hj2, h12, hF12, hX12⟩ := h12
        refine ⟨j2, by omega, h12, fr_pt hF (fr_pt hF5 (fr_pt hF7 hF12)), fun z => ⟨hfq, ?_⟩⟩
        obtain ⟨z1, rfl, z3⟩ := hX12 z
        exact ⟨m, hnots, Or.inr ⟨by omega, j, (hX7 z1).2, by omega, rfl⟩⟩
    · refine dOk_V (pr_sum 10 d (by omega) hd8 q3 x1 m h hp) (fun q10 h10 => ?_)
      obtain ⟨n1, hn1, h10, hF10, hX10⟩ := h10
      have h128 : ∀ (q' : dS) (k' : Nat), n1 ≤ k' → PQ o n c v k' q' → dFr [] [19, 20, 21] q10 q' → (fn q' → fn q10 ∧ k' = n1 + 1 ∧ (pC n c n1 = 160 ∨ pC n c n1 = 162 ∨ pC n c n1 = 161)) → dOk (zX10_readPlain_128 kT q' x1) (fun Q => PR o n c v q i (gPlain o (pC n c) (pV v) d i) Q) := by
        intro q' k' hk' h' hF' hc'
        unfold zX10_readPlain_128 zX10_readPlain_133
        refine dOk_V (pr_sum 10 d (by omega) hd8 q' x1 k' h' hp) (fun q11 h11 => dOk_some ?_)
        obtain ⟨j, hj, h11, hF11, hX11⟩ := h11
        refine ⟨j, by omega, h11, fr_pt hF (fr_pt hF10 (fr_pt hF' hF11)), fun z => ⟨hfq, ?_⟩⟩
        have z1 := hX11 z
        obtain ⟨w1, rfl, w3⟩ := hc' z1.1
        have hcmp : gCmp o (pC n c) (pV v) d m j := ⟨by omega, n1, (hX10 w1).2, w3, z1.2⟩
        cases d with
        | zero => exact ⟨m, hnots, hcmp⟩
        | succ d => exact ⟨m, hnots, Or.inl hcmp⟩
      refine dOk_V (sg 60 (by decide) (by decide)) (fun r11 hr11 => ?_)
      have hr11 : r11.toInt = 160 := hr11
      refine dOk_B (pr_takes r11 (by omega) h10) (fun r13 q15 hr => ?_)
      rcases hr with ⟨e, z1, z2, z3, z4, z5⟩ | ⟨e, e5, y1⟩
      · have e : r13 = 1 := e
        subst e
        rw [if_neg (by decide)]
        exact h128 q15 (n1 + 1) (by omega) z4 z5 (fun _ => ⟨z1, rfl, by omega⟩)
      have e : r13 = 0 := e
      have e5 : q15 = q10 := e5
      subst e e5
      rw [if_pos rfl]
      refine dOk_V (sg 62 (by decide) (by decide)) (fun r16 hr16 => ?_)
      have hr16 : r16.toInt = 162 := hr16
      refine dOk_B (pr_takes r16 (by omega) h10) (fun r18 q20 hr => ?_)
      rcases hr with ⟨e, z1, z2, z3, z4, z5⟩ | ⟨e, e5, y2⟩
      · have e : r18 = 1 := e
        subst e
        rw [if_neg (by decide)]
        exact h128 q20 (n1 + 1) (by omega) z4 z5 (fun _ => ⟨z1, rfl, by omega⟩)
      have e : r18 = 0 := e
      have e5 : q20 = q15 := e5
      subst e e5
      rw [if_pos rfl]
      refine dOk_V (sg 61 (by decide) (by decide)) (fun r21 hr21 => ?_)
      have hr21 : r21.toInt = 161 := hr21
      refine dOk_V (pr_must r21 (by omega) h10) (fun q25 h25 => ?_)
      obtain ⟨j, hj, h25, hF25, hX25⟩ := h25
      exact h128 q25 j hj h25 hF25 (fun z => ⟨(hX25 z).1, (hX25 z).2.1, by have := (hX25 z).2.2; omega⟩)
  · have := h.2.2.2.2.2.2.1
    show (2 * (401 - Int32.toInt (q.1 0 19)) + Int32.toInt 1).toNat < 1000000000000
    rw [show Int32.toInt 1 = (1 : Int) by decide]
    omega
theorem pr_both {kT : dS → Int32 → Option dS} {o : Bool} {n : Nat} {c v : Nat → Int32} {d : Nat} (hp : PrS o n c v d (gPlain o (pC n c) (pV v) d) (zX10_readPlain kT)) : PrS o n c v d (gSeq (fun a => pC n c a = 6) (gPlain o (pC n c) (pV v) d)) (zX10_readBoth kT) := by
  intro q p1 i h hd
  unfold zX10_readBoth
  refine dOk_V (hp q p1 i h hd) (fun q3 h3 => ?_)
  obtain ⟨m0, hm0, h3, hF3, hX3⟩ := h3
  unfold zX10_readBoth_5
  refine dFix_ok (fun (a : dS × Int32) => ∃ m : Nat, i ≤ m ∧ PQ o n c v m a.1 ∧ dFr [] [19, 20, 21] q a.1 ∧ a.2 = p1 ∧ (fn a.1 → fn q ∧ ∀ j : Nat, ((¬ pC n c m = 6 ∧ j = m) ∨ (pC n c m = 6 ∧ gSeq (fun a => pC n c a = 6) (gPlain o (pC n c) (pV v) d) (m + 1) j)) → gSeq (fun a => pC n c a = 6) (gPlain o (pC n c) (pV v) d) i j)) (fun (a : dS × Int32) => (401 - Int32.toInt (a.1.1 0 19)).toNat) ?_ _ ⟨m0, hm0, h3, hF3, rfl, fun z => ⟨(hX3 z).1, fun j hj => gSeq_cons (hX3 z).2 hj⟩⟩ _ (dF_gt ?_)
  · intro a ha k hk
    obtain ⟨qa, x1⟩ := a
    obtain ⟨m, him, h, hF, ex, hX⟩ := ha
    replace h : PQ o n c v m qa := h
    replace hF : dFr [] [19, 20, 21] q qa := hF
    replace ex : x1 = p1 := ex
    replace hX : fn qa → fn q ∧ ∀ j : Nat, ((¬ pC n c m = 6 ∧ j = m) ∨ (pC n c m = 6 ∧ gSeq (fun a => pC n c a = 6) (gPlain o (pC n c) (pV v) d) (m + 1) j)) → gSeq (fun a => pC n c a = 6) (gPlain o (pC n c) (pV v) d) i j := hX
    subst ex
    have h19 := h.2.2.2.2.2.2.1
    show dOk (zX10_readBoth_5b kT (fun q x1 => k (q, x1)) qa x1) _
    unfold zX10_readBoth_5b
    refine dOk_B (pr_takes 6 (by decide) h) (fun r q3 hr => ?_)
    rcases hr with ⟨e, z1, z2, z3, z4, z5⟩ | ⟨e, e5, y1⟩
    · have e : r = 1 := e
      have z3 : pC n c m = 6 := z3
      subst e
      rw [if_neg (by decide)]
      refine dOk_V (hp q3 x1 (m + 1) z4 hd) (fun q6 h6 => ?_)
      obtain ⟨m', hm', h6, hF6, hX6⟩ := h6
      have h19' := h6.2.2.2.2.2.2.1
      have hn' := h6.2.2.2.2.2.2.2.1
      have h400 := h6.2.2.2.2.1
      refine hk (q6, x1) ⟨m', by omega, h6, fr_pt hF (fr_pt z5 hF6), rfl, fun z => ⟨(hX z1).1, fun j hj => (hX z1).2 j (Or.inr ⟨z3, gSeq_cons (hX6 z).2 hj⟩)⟩⟩ ?_
      show (401 - Int32.toInt (q6.1 0 19)).toNat < (401 - Int32.toInt (qa.1 0 19)).toNat
      omega
    · have e : r = 0 := e
      have e5 : q3 = qa := e5
      subst e e5
      rw [if_pos rfl]
      exact dOk_some ⟨m, him, h, hF, fun z => ⟨(hX z).1, (hX z).2 m (Or.inl ⟨y1 z, rfl⟩)⟩⟩
  · have := h3.2.2.2.2.2.2.1
    show (401 - Int32.toInt (q3.1 0 19)).toNat < 1000000000000
    omega
theorem pr_test_o {kT : dS → Int32 → Option dS} {o : Bool} {n : Nat} {c v : Nat → Int32} {d : Nat} (hp : PrS o n c v d (gSeq (fun a => pC n c a = 6) (gPlain o (pC n c) (pV v) d)) (zX10_readBoth kT)) : PrS o n c v d (gTest o (pC n c) (pV v) d) (zX10_readTest_o kT) := by
  intro q p1 i h hd
  unfold zX10_readTest_o
  refine dOk_V (hp q p1 i h hd) (fun q3 h3 => ?_)
  obtain ⟨m0, hm0, h3, hF3, hX3⟩ := h3
  unfold zX10_readTest_5
  refine dFix_ok (fun (a : dS × Int32) => ∃ m : Nat, i ≤ m ∧ PQ o n c v m a.1 ∧ dFr [] [19, 20, 21] q a.1 ∧ a.2 = p1 ∧ (fn a.1 → fn q ∧ ∀ j : Nat, ((¬ pC n c m = 5 ∧ j = m) ∨ (pC n c m = 5 ∧ gTest o (pC n c) (pV v) d (m + 1) j)) → gTest o (pC n c) (pV v) d i j)) (fun (a : dS × Int32) => (401 - Int32.toInt (a.1.1 0 19)).toNat) ?_ _ ⟨m0, hm0, h3, hF3, rfl, fun z => ⟨(hX3 z).1, fun j hj => gSeq_cons (hX3 z).2 hj⟩⟩ _ (dF_gt ?_)
  · intro a ha k hk
    obtain ⟨qa, x1⟩ := a
    obtain ⟨m, him, h, hF, ex, hX⟩ := ha
    replace h : PQ o n c v m qa := h
    replace hF : dFr [] [19, 20, 21] q qa := hF
    replace ex : x1 = p1 := ex
    replace hX : fn qa → fn q ∧ ∀ j : Nat, ((¬ pC n c m = 5 ∧ j = m) ∨ (pC n c m = 5 ∧ gTest o (pC n c) (pV v) d (m + 1) j)) → gTest o (pC n c) (pV v) d i j := hX
    subst ex
    have h19 := h.2.2.2.2.2.2.1
    show dOk (zX10_readTest_5b kT (fun q x1 => k (q, x1)) qa x1) _
    unfold zX10_readTest_5b
    refine dOk_B (pr_takes 5 (by decide) h) (fun r q3 hr => ?_)
    rcases hr with ⟨e, z1, z2, z3, z4, z5⟩ | ⟨e, e5, y1⟩
    · have e : r = 1 := e
      have z3 : pC n c m = 5 := z3
      subst e
      rw [if_neg (by decide)]
      refine dOk_V (hp q3 x1 (m + 1) z4 hd) (fun q6 h6 => ?_)
      obtain ⟨m', hm', h6, hF6, hX6⟩ := h6
      have h19' := h6.2.2.2.2.2.2.1
      have hn' := h6.2.2.2.2.2.2.2.1
      have h400 := h6.2.2.2.2.1
      refine hk (q6, x1) ⟨m', by omega, h6, fr_pt hF (fr_pt z5 hF6), rfl, fun z => ⟨(hX z1).1, fun j hj => (hX z1).2 j (Or.inr ⟨z3, gSeq_cons (hX6 z).2 hj⟩)⟩⟩ ?_
      show (401 - Int32.toInt (q6.1 0 19)).toNat < (401 - Int32.toInt (qa.1 0 19)).toNat
      omega
    · have e : r = 0 := e
      have e5 : q3 = qa := e5
      subst e e5
      rw [if_pos rfl]
      exact dOk_some ⟨m, him, h, hF, fun z => ⟨(hX z).1, (hX z).2 m (Or.inl ⟨y1 z, rfl⟩)⟩⟩
  · have := h3.2.2.2.2.2.2.1
    show (401 - Int32.toInt (q3.1 0 19)).toNat < 1000000000000
    omega
theorem pr_test {o : Bool} {n : Nat} {c v : Nat → Int32} : ∀ (k d : Nat), d < k → d ≤ 8 → PrS o n c v d (gTest o (pC n c) (pV v) d) (zX10_readTest k) := by
  intro k
  induction k with
  | zero => intro d hd; omega
  | succ k ih =>
    intro d hd hd8 q p1 i h hp
    have h1 : PrS o n c v d (gTest o (pC n c) (pV v) d) (zX10_readTest_o (zX10_readTest k)) := pr_test_o (pr_both (pr_plain d hd8 (fun d' e' => ih d' (by omega) (by omega))))
    exact h1 q p1 i h hp
