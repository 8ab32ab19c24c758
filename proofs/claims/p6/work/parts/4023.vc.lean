theorem gEnd_tail {op : Nat → Prop} {X : Nat → Nat → Prop} {i j : Nat} (h : gSeq op X i j) : ∃ m : Nat, X i m ∧ ((¬ op m ∧ j = m) ∨ (op m ∧ gSeq op X (m + 1) j)) := by
  obtain ⟨n, h⟩ := h
  cases n with
  | zero => exact ⟨j, h.1, Or.inl ⟨h.2, rfl⟩⟩
  | succ n =>
    obtain ⟨m, h1, h2, h3⟩ := h
    exact ⟨m, h1, Or.inr ⟨h2, n, h3⟩⟩
theorem gEnd_mono {op : Nat → Prop} {X : Nat → Nat → Prop} (hX : ∀ i j : Nat, X i j → i ≤ j) : ∀ (n i j : Nat), gEnd op X n i j → i ≤ j := by
  intro n
  induction n with
  | zero => intro i j h; exact hX i j h.1
  | succ n ih =>
    intro i j h
    obtain ⟨m, h1, h2, h3⟩ := h
    have := hX i m h1
    have := ih (m + 1) j h3
    omega
theorem gSeq_mono {op : Nat → Prop} {X : Nat → Nat → Prop} (hX : ∀ i j : Nat, X i j → i ≤ j) {i j : Nat} (h : gSeq op X i j) : i ≤ j := by
  obtain ⟨n, h⟩ := h
  exact gEnd_mono hX n i j h
theorem gLeaf_mono {o : Bool} {C V : Nat → Int} {i j : Nat} (h : gLeaf o C V i j) : i ≤ j := by
  cases o with
  | false => have h : gLeafL C i j := h; unfold gLeafL at h; omega
  | true => have h : gLeafO C V i j := h; unfold gLeafO at h; omega
theorem gPart_mono {o : Bool} {C V : Nat → Int} : ∀ (d i j : Nat), gPart o C V d i j → i ≤ j := by
  intro d
  induction d with
  | zero => intro i j h; exact gLeaf_mono h
  | succ d ih =>
    intro i j h
    rcases h with h | ⟨_, m, h1, _, rfl⟩
    · exact gLeaf_mono h
    · have := gSeq_mono (fun i j h => gSeq_mono ih h) h1
      omega
theorem gTerm_mono {o : Bool} {C V : Nat → Int} {d i j : Nat} (h : gSeq (gMul C) (gPart o C V d) i j) : i ≤ j := gSeq_mono (gPart_mono d) h
theorem gSum_mono {o : Bool} {C V : Nat → Int} {d i j : Nat} (h : gSum o C V d i j) : i ≤ j := gSeq_mono (fun _ _ h => gTerm_mono h) h
theorem lgz : lg_cmp (0 : Int64) 0 = 0 := by decide
theorem ev_term {kU : dS → Int32 → Option (Int64 × dS)} {o : Bool} {f : Nat → Int32} {e d : Nat} (hp : EvL o f e (gPart o (lawC f e) (lawV f) d) (zX10_partOf kU)) : EvL o f e (gSeq (gMul (lawC f e)) (gPart o (lawC f e) (lawV f) d)) (zX10_termOf kU) := by
  intro q p1 i j h hX
  obtain ⟨m, hXm, ht⟩ := gEnd_tail hX
  unfold zX10_termOf
  refine dOk_B (hp q p1 i m h hXm) (fun r q3 hr => ?_)
  obtain ⟨h3, hF3⟩ := hr
  unfold zX10_termOf_6
  refine dFix_ok (fun (a : dS × Int32 × Int64) => ∃ m : Nat, EvQ o f e m a.1 ∧ dFr [] [22, 24] q a.1 ∧ ((¬ gMul (lawC f e) m ∧ j = m) ∨ (gMul (lawC f e) m ∧ gSeq (gMul (lawC f e)) (gPart o (lawC f e) (lawV f) d) (m + 1) j))) (fun (a : dS × Int32 × Int64) => (2802 - Int32.toInt (a.1.1 0 22)).toNat) ?_ _ ⟨m, h3, hF3, ht⟩ _ (dF_gt ?_)
  · intro a ha k hk
    obtain ⟨qa, x1, x2⟩ := a
    obtain ⟨m, h, hF, ht⟩ := ha
    have h : EvQ o f e m qa := h
    have hF : dFr [] [22, 24] q qa := hF
    have hgo := h.2.2.1
    have hmx := h.2.2.2.2.2.2
    have he := h.2.2.2.2.1
    show dOk (zX10_termOf_6b kU (fun q x1 x2 => k (q, x1, x2)) qa x1 x2) _
    have h54 : gMul (lawC f e) m → gSeq (gMul (lawC f e)) (gPart o (lawC f e) (lawV f) d) (m + 1) j → dOk (zX10_termOf_54 kU (fun q x1 x2 => k (q, x1, x2)) qa x1 x2) (fun r => EvQ o f e j r.2 ∧ dFr [] [22, 24] q r.2) := by
      intro hop hs
      have hme : m < e := lawC_in (f := f) (e := e) (i := m) (by unfold gMul at hop; omega)
      obtain ⟨m', hXm', ht'⟩ := gEnd_tail hs
      have hmm := gPart_mono d _ _ hXm'
      have hback : ∀ (q' : dS) (v : Int64), EvQ o f e m' q' → dFr [] [22, 24] q q' → dOk (k (q', x1, v)) (fun r => EvQ o f e j r.2 ∧ dFr [] [22, 24] q r.2) := by
        intro q' v h' hF'
        refine hk (q', x1, v) ⟨m', h', hF', ht'⟩ ?_
        have := h'.2.2.1
        show (2802 - Int32.toInt (q'.1 0 22)).toNat < (2802 - Int32.toInt (qa.1 0 22)).toNat
        omega
      have h160 : ∀ (q' : dS) (y : Int64), EvQ o f e m' q' → dFr [] [22, 24] q q' → dOk (zX10_termOf_160 kU (fun q x1 x2 => k (q, x1, x2)) q' x1 y) (fun r => EvQ o f e j r.2 ∧ dFr [] [22, 24] q r.2) := by
        intro q' y h' hF'
        unfold zX10_termOf_160
        exact dOk_B (ev_bounded y x1 h') (fun r1 q3 hr => hback q3 r1 hr.1 (fr_t hF' hr.2))
      have h121 : ∀ (q' : dS) (x4 : Int32) (x5 : Int64), (x4.toInt = 142 ∨ ¬ x5 = 0) → EvQ o f e m' q' → dFr [] [22, 24] q q' → dOk (zX10_termOf_121 kU (fun q x1 x2 => k (q, x1, x2)) q' x1 x2 x4 x5) (fun r => EvQ o f e j r.2 ∧ dFr [] [22, 24] q r.2) := by
        intro q' x4 x5 hz h' hF'
        unfold zX10_termOf_121
        refine dOk_V (sg 42 (by decide) (by decide)) (fun r1 hr1 => ?_)
        have hr1 : r1.toInt = 142 := hr1
        refine dOk_eq rfl rfl (fun _ _ => h160 q' _ h' hF') (fun _ c => ?_)
        have hz5 : ¬ x5 = 0 := by
          rcases hz with hz | hz
          · omega
          · exact hz
        refine dOk_V (sg 47 (by decide) (by decide)) (fun r3 hr3 => ?_)
        exact dOk_eq rfl rfl (fun _ _ => dOk_G (dnl_ok hz5) (h160 q' _ h' hF')) (fun _ _ => dOk_G (dnl_ok hz5) (h160 q' _ h' hF'))
      have h115 : ∀ (q' : dS) (x4 y0 : Int32), (y0.toInt = 0 ∨ y0.toInt = 1) → EvQ o f e m' q' → dFr [] [22, 24] q q' → dOk (zX10_termOf_115 kU (fun q x1 x2 => k (q, x1, x2)) q' x1 x2 x4 y0) (fun r => EvQ o f e j r.2 ∧ dFr [] [22, 24] q r.2) := by
        intro q' x4 y0 hy h' hF'
        unfold zX10_termOf_115
        refine dOk_G (dbl_ok hy) (dOk_L (fun q2 e2 => ?_))
        subst e2
        exact h121 _ x4 1 (Or.inr (by decide)) (evq_br h' hy) (fr_t hF' fr_br)
      unfold zX10_termOf_54
      refine dOk_B (ev_at h) (fun r1 q3 hr => ?_)
      obtain ⟨e3, e4⟩ := hr
      have e3 : q3 = qa := e3
      have e4 : r1.toInt = lawC f e m := e4
      subst e3
      refine dOk_L (fun q4 e5 => ?_)
      have h4 : EvQ o f e (m + 1) q4 := by rw [e5]; exact evq_go h (by omega)
      have hF4 : dFr [] [22, 24] q3 q4 := by rw [e5]; exact fr_go
      refine dOk_B (hp q4 x1 (m + 1) m' h4 hXm') (fun r5 q7 hr => ?_)
      obtain ⟨h7, hF7⟩ := hr
      have hF7' := fr_t hF (fr_t hF4 hF7)
      refine dOk_V (sg 42 (by decide) (by decide)) (fun r8 hr8 => ?_)
      have hr8 : r8.toInt = 142 := hr8
      refine dOk_eq rfl rfl (fun _ c => h121 q7 r1 r5 (Or.inl (by omega)) h7 hF7') (fun _ c => ?_)
      refine dOk_eq rfl rfl (fun _ _ => ?_) (fun cz _ => ?_)
      · refine dOk_eq rfl rfl (fun _ _ => ?_) (fun _ _ => ?_)
        · refine dOk_eq rfl rfl (fun _ _ => h115 q7 r1 0 (by decide) h7 hF7') (fun _ _ => ?_)
          unfold zX10_termOf_110
          exact h115 q7 r1 1 (by decide) h7 hF7'
        · unfold zX10_termOf_110
          exact h115 q7 r1 1 (by decide) h7 hF7'
      · refine h121 q7 r1 r5 (Or.inr (fun z => ?_)) h7 hF7'
        rw [z] at cz
        exact cz lgz
    unfold zX10_termOf_6b
    refine dOk_B (ev_at h) (fun r1 q3 hr => ?_)
    obtain ⟨e3, e4⟩ := hr
    have e3 : q3 = qa := e3
    have e4 : r1.toInt = lawC f e m := e4
    subst e3
    refine dOk_V (sg 42 (by decide) (by decide)) (fun r4 hr4 => ?_)
    have hr4 : r4.toInt = 142 := hr4
    refine dOk_eq rfl rfl (fun _ c => ?_) (fun _ c => ?_)
    · rcases ht with ⟨hn, _⟩ | ⟨hop, hs⟩
      · exact absurd (Or.inl (by omega)) hn
      · exact h54 hop hs
    refine dOk_B (ev_at h) (fun r6 q8 hr => ?_)
    obtain ⟨e3, e5⟩ := hr
    have e3 : q8 = q3 := e3
    have e5 : r6.toInt = lawC f e m := e5
    subst e3
    refine dOk_V (sg 47 (by decide) (by decide)) (fun r9 hr9 => ?_)
    have hr9 : r9.toInt = 147 := hr9
    refine dOk_eq rfl rfl (fun _ c => ?_) (fun _ c => ?_)
    · rcases ht with ⟨hn, _⟩ | ⟨hop, hs⟩
      · exact absurd (Or.inr (Or.inl (by omega))) hn
      · exact h54 hop hs
    refine dOk_B (ev_at h) (fun r11 q13 hr => ?_)
    obtain ⟨e3, e6⟩ := hr
    have e3 : q13 = q8 := e3
    have e6 : r11.toInt = lawC f e m := e6
    subst e3
    refine dOk_V (sg 37 (by decide) (by decide)) (fun r14 hr14 => ?_)
    have hr14 : r14.toInt = 137 := hr14
    refine dOk_eq rfl rfl (fun _ c => ?_) (fun _ c => ?_)
    · rcases ht with ⟨hn, _⟩ | ⟨hop, hs⟩
      · exact absurd (Or.inr (Or.inr (by omega))) hn
      · exact h54 hop hs
    · rcases ht with ⟨_, rfl⟩ | ⟨hop, _⟩
      · exact dOk_some ⟨h, hF⟩
      · unfold gMul at hop; omega
  · have h9 : Int32.toInt (q3.1 0 22) = (m : Int) := h3.2.2.1
    show (2802 - Int32.toInt (q3.1 0 22)).toNat < 1000000000000
    omega
theorem ev_sum_o {kU : dS → Int32 → Option (Int64 × dS)} {o : Bool} {f : Nat → Int32} {e d : Nat} (hp : EvL o f e (gSeq (gMul (lawC f e)) (gPart o (lawC f e) (lawV f) d)) (zX10_termOf kU)) : EvL o f e (gSum o (lawC f e) (lawV f) d) (zX10_sumOf_o kU) := by
  intro q p1 i j h hX
  obtain ⟨m, hXm, ht⟩ := gEnd_tail hX
  unfold zX10_sumOf_o
  refine dOk_B (hp q p1 i m h hXm) (fun r q3 hr => ?_)
  obtain ⟨h3, hF3⟩ := hr
  unfold zX10_sumOf_6
  refine dFix_ok (fun (a : dS × Int32 × Int64) => ∃ m : Nat, EvQ o f e m a.1 ∧ dFr [] [22, 24] q a.1 ∧ ((¬ gAdd (lawC f e) m ∧ j = m) ∨ (gAdd (lawC f e) m ∧ gSeq (gAdd (lawC f e)) (gSeq (gMul (lawC f e)) (gPart o (lawC f e) (lawV f) d)) (m + 1) j))) (fun (a : dS × Int32 × Int64) => (2802 - Int32.toInt (a.1.1 0 22)).toNat) ?_ _ ⟨m, h3, hF3, ht⟩ _ (dF_gt ?_)
  · intro a ha k hk
    obtain ⟨qa, x1, x2⟩ := a
    obtain ⟨m, h, hF, ht⟩ := ha
    have h : EvQ o f e m qa := h
    have hF : dFr [] [22, 24] q qa := hF
    have hgo := h.2.2.1
    have hmx := h.2.2.2.2.2.2
    have he := h.2.2.2.2.1
    show dOk (zX10_sumOf_6b kU (fun q x1 x2 => k (q, x1, x2)) qa x1 x2) _
    have h38 : gAdd (lawC f e) m → gSeq (gAdd (lawC f e)) (gSeq (gMul (lawC f e)) (gPart o (lawC f e) (lawV f) d)) (m + 1) j → dOk (zX10_sumOf_38 kU (fun q x1 x2 => k (q, x1, x2)) qa x1 x2) (fun r => EvQ o f e j r.2 ∧ dFr [] [22, 24] q r.2) := by
      intro hop hs
      have hme : m < e := lawC_in (f := f) (e := e) (i := m) (by unfold gAdd at hop; omega)
      obtain ⟨m', hXm', ht'⟩ := gEnd_tail hs
      have hmm := gTerm_mono hXm'
      have hback : ∀ (q' : dS) (v : Int64), EvQ o f e m' q' → dFr [] [22, 24] q q' → dOk (k (q', x1, v)) (fun r => EvQ o f e j r.2 ∧ dFr [] [22, 24] q r.2) := by
        intro q' v h' hF'
        refine hk (q', x1, v) ⟨m', h', hF', ht'⟩ ?_
        have := h'.2.2.1
        show (2802 - Int32.toInt (q'.1 0 22)).toNat < (2802 - Int32.toInt (qa.1 0 22)).toNat
        omega
      have h95 : ∀ (q' : dS) (y : Int64), EvQ o f e m' q' → dFr [] [22, 24] q q' → dOk (zX10_sumOf_95 kU (fun q x1 x2 => k (q, x1, x2)) q' x1 y) (fun r => EvQ o f e j r.2 ∧ dFr [] [22, 24] q r.2) := by
        intro q' y h' hF'
        unfold zX10_sumOf_95
        exact dOk_B (ev_bounded y x1 h') (fun r1 q3 hr => hback q3 r1 hr.1 (fr_t hF' hr.2))
      have h59 : ∀ (y0 : Int32), dOk (zX10_sumOf_59 kU (fun q x1 x2 => k (q, x1, x2)) qa x1 x2 y0) (fun r => EvQ o f e j r.2 ∧ dFr [] [22, 24] q r.2) := by
        intro y0
        unfold zX10_sumOf_59
        refine dOk_L (fun q1 e1 => ?_)
        have h1 : EvQ o f e (m + 1) q1 := by rw [e1]; exact evq_go h (by omega)
        have hF1 : dFr [] [22, 24] qa q1 := by rw [e1]; exact fr_go
        refine dOk_B (hp q1 x1 (m + 1) m' h1 hXm') (fun r2 q4 hr => ?_)
        obtain ⟨h4, hF4⟩ := hr
        have hF5 := fr_t hF (fr_t hF1 hF4)
        exact dOk_eq rfl rfl (fun _ _ => h95 q4 _ h4 hF5) (fun _ _ => h95 q4 _ h4 hF5)
      unfold zX10_sumOf_38
      refine dOk_B (ev_at h) (fun r1 q3 hr => ?_)
      obtain ⟨e3, e4⟩ := hr
      have e3 : q3 = qa := e3
      subst e3
      refine dOk_V (sg 43 (by decide) (by decide)) (fun r4 hr4 => ?_)
      exact dOk_eq rfl rfl (fun _ _ => h59 1) (fun _ _ => h59 0)
    unfold zX10_sumOf_6b
    refine dOk_B (ev_at h) (fun r1 q3 hr => ?_)
    obtain ⟨e3, e4⟩ := hr
    have e3 : q3 = qa := e3
    have e4 : r1.toInt = lawC f e m := e4
    subst e3
    refine dOk_V (sg 43 (by decide) (by decide)) (fun r4 hr4 => ?_)
    have hr4 : r4.toInt = 143 := hr4
    refine dOk_eq rfl rfl (fun _ c => ?_) (fun _ c => ?_)
    · rcases ht with ⟨hn, _⟩ | ⟨hop, hs⟩
      · exact absurd (Or.inl (by omega)) hn
      · exact h38 hop hs
    refine dOk_B (ev_at h) (fun r6 q8 hr => ?_)
    obtain ⟨e3, e5⟩ := hr
    have e3 : q8 = q3 := e3
    have e5 : r6.toInt = lawC f e m := e5
    subst e3
    refine dOk_V (sg 45 (by decide) (by decide)) (fun r9 hr9 => ?_)
    have hr9 : r9.toInt = 145 := hr9
    refine dOk_eq rfl rfl (fun _ c => ?_) (fun _ c => ?_)
    · rcases ht with ⟨hn, _⟩ | ⟨hop, hs⟩
      · exact absurd (Or.inr (by omega)) hn
      · exact h38 hop hs
    · rcases ht with ⟨_, rfl⟩ | ⟨hop, _⟩
      · exact dOk_some ⟨h, hF⟩
      · unfold gAdd at hop; omega
  · have h9 : Int32.toInt (q3.1 0 22) = (m : Int) := h3.2.2.1
    show (2802 - Int32.toInt (q3.1 0 22)).toNat < 1000000000000
    omega
theorem ev_sum {o : Bool} {f : Nat → Int32} {e : Nat} : ∀ (n d : Nat), d < n → EvL o f e (gSum o (lawC f e) (lawV f) d) (zX10_sumOf n) := by
  intro n
  induction n with
  | zero => intro d hd; omega
  | succ n ih =>
    intro d hd q p1 i j h hX
    have h1 : EvL o f e (gSum o (lawC f e) (lawV f) d) (zX10_sumOf_o (zX10_sumOf n)) := ev_sum_o (ev_term (ev_part d (fun d' e' => ih d' (by omega))))
    exact h1 q p1 i j h hX
