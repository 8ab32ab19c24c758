def gPos (o : Bool) (C V : Nat → Int) (d i j : Nat) : Prop := gCmp o C V d i j ∨ ∃ d' : Nat, d = d' + 1 ∧ C i = 140 ∧ ∃ n : Nat, gTest o C V d' (i + 1) n ∧ C n = 141 ∧ j = n + 1
theorem gPlain_pos {o : Bool} {C V : Nat → Int} {d i j : Nat} (h : gPlain o C V d i j) : ∃ m : Nat, gNots C i m ∧ gPos o C V d m j := by
  cases d with
  | zero =>
    obtain ⟨m, h1, h2⟩ := h
    exact ⟨m, h1, Or.inl h2⟩
  | succ d =>
    obtain ⟨m, h1, h2⟩ := h
    rcases h2 with h2 | h2
    · exact ⟨m, h1, Or.inl h2⟩
    · exact ⟨m, h1, Or.inr ⟨d, rfl, h2⟩⟩
theorem gPlain_mono {o : Bool} {C V : Nat → Int} : ∀ (d i j : Nat), gPlain o C V d i j → i ≤ j := by
  intro d
  induction d with
  | zero =>
    intro i j h
    obtain ⟨m, h1, h2, n, h3, h4, h5⟩ := h
    have := gSum_mono h3
    have := gSum_mono h5
    have := h1.2.1
    omega
  | succ d ih =>
    intro i j h
    obtain ⟨m, h1, h2⟩ := h
    have := h1.2.1
    rcases h2 with ⟨_, n, h3, h4, h5⟩ | ⟨_, n, h3, _, rfl⟩
    · have := gSum_mono h3
      have := gSum_mono h5
      omega
    · have := gSeq_mono (fun i j h => gSeq_mono ih h) h3
      omega
theorem gBoth_mono {o : Bool} {C V : Nat → Int} {d i j : Nat} (h : gSeq (fun a => C a = 6) (gPlain o C V d) i j) : i ≤ j := gSeq_mono (gPlain_mono d) h
theorem gTest_mono {o : Bool} {C V : Nat → Int} {d i j : Nat} (h : gTest o C V d i j) : i ≤ j := gSeq_mono (fun _ _ h => gBoth_mono h) h
theorem ev_pos {kV : dS → Int32 → Option (Int32 × dS)} {o : Bool} {f : Nat → Int32} {e : Nat} (d : Nat) (hd : d < 10) (hk : ∀ d', d = d' + 1 → EvB o f e (gTest o (lawC f e) (lawV f) d') kV) : EvB o f e (gPos o (lawC f e) (lawV f) d) (zX10_positiveOf kV) := by
  intro q p1 i j h hX
  unfold zX10_positiveOf
  refine dOk_V (sg 40 (by decide) (by decide)) (fun r1 hr1 => ?_)
  have hr1 : r1.toInt = 140 := hr1
  refine dOk_B (ev_pass r1 (by omega) h) (fun r3 q5 h3 => ?_)
  rcases hX with ⟨hn, n, hs1, hc, hs2⟩ | ⟨d', rfl, hb, n, hn, hn2, rfl⟩
  · rcases h3 with ⟨_, z, _⟩ | ⟨z0, _, z2⟩
    · exact absurd z (by omega)
    · have z0 : r3 = 0 := z0
      have z2 : q5 = q := z2
      subst z0 z2
      rw [if_pos rfl]
      have hne : n < e := lawC_in (f := f) (e := e) (i := n) (by omega)
      refine dOk_B (ev_sum 10 d hd q5 p1 i n h hs1) (fun r6 q8 hr => ?_)
      obtain ⟨h8, hF8⟩ := hr
      refine dOk_B (ev_at h8) (fun r9 q11 hr => ?_)
      obtain ⟨e3, e4⟩ := hr
      have e3 : q11 = q8 := e3
      subst e3
      refine dOk_L (fun q12 e12 => ?_)
      have h12 : EvQ o f e (n + 1) q12 := by rw [e12]; exact evq_go h8 (by omega)
      have hF12 : dFr [] [22, 24] q11 q12 := by rw [e12]; exact fr_go
      refine dOk_B (ev_sum 10 d hd q12 p1 (n + 1) j h12 hs2) (fun r13 q15 hr => ?_)
      obtain ⟨h15, hF15⟩ := hr
      have hF := fr_t hF8 (fr_t hF12 hF15)
      have h0 : dOk (zX10_positiveOf_125 kV q15) (fun r => EvQ o f e j r.2 ∧ dFr [] [22, 24] q5 r.2 ∧ (r.1.toInt = 0 ∨ r.1.toInt = 1)) := by
        unfold zX10_positiveOf_125 zX10_positiveOf_126
        exact dOk_G (by decide) (dOk_some ⟨h15, hF, Or.inl (by show Int32.toInt 0 = 0; decide)⟩)
      have h1 : dOk (zX10_positiveOf_121 kV q15) (fun r => EvQ o f e j r.2 ∧ dFr [] [22, 24] q5 r.2 ∧ (r.1.toInt = 0 ∨ r.1.toInt = 1)) := by
        unfold zX10_positiveOf_121 zX10_positiveOf_126
        exact dOk_G (by decide) (dOk_some ⟨h15, hF, Or.inr (by show Int32.toInt 1 = 1; decide)⟩)
      refine dOk_eq rfl rfl (fun _ _ => h0) (fun _ _ => ?_)
      refine dOk_eq rfl rfl (fun _ _ => ?_) (fun _ _ => h0)
      refine dOk_V (sg 60 (by decide) (by decide)) (fun r16 _ => ?_)
      refine dOk_eq rfl rfl (fun _ _ => dOk_le rfl rfl (fun _ => h0) (fun _ => h1)) (fun _ _ => ?_)
      refine dOk_V (sg 62 (by decide) (by decide)) (fun r18 _ => ?_)
      exact dOk_eq rfl rfl (fun _ _ => dOk_le rfl rfl (fun _ => h0) (fun _ => h1)) (fun _ _ => dOk_eq rfl rfl (fun _ _ => h1) (fun _ _ => h0))
  · have hne := lawC_in (f := f) (e := e) (i := n) (by omega)
    rcases h3 with ⟨z0, _, z2, z3⟩ | ⟨_, z1, _⟩
    · have z0 : r3 = 1 := z0
      have z2 : EvQ o f e (i + 1) q5 := z2
      subst z0
      rw [if_neg (by decide)]
      refine dOk_B (hk d' rfl q5 p1 (i + 1) n z2 hn) (fun r20 q22 hr => ?_)
      obtain ⟨h22, hF22, hb22⟩ := hr
      refine dOk_L (fun q23 e23 => dOk_G (dbl_ok hb22) (dOk_some ?_))
      show EvQ o f e (n + 1) q23 ∧ dFr [] [22, 24] q q23 ∧ _
      rw [e23]
      exact ⟨evq_go h22 (by omega), fr_t z3 (fr_t hF22 fr_go), hb22⟩
    · exact absurd (show lawC f e i = r1.toInt by omega) z1
theorem ev_plain {kV : dS → Int32 → Option (Int32 × dS)} {o : Bool} {f : Nat → Int32} {e d : Nat} (hp : EvB o f e (gPos o (lawC f e) (lawV f) d) (zX10_positiveOf kV)) : EvB o f e (gPlain o (lawC f e) (lawV f) d) (zX10_plainOf kV) := by
  intro q p1 i j h hX
  obtain ⟨m, hn, hX⟩ := gPlain_pos hX
  unfold zX10_plainOf zX10_plainOf_2
  refine dFix_ok (fun (a : dS × Int32 × Int32) => ∃ b : Nat, EvQ o f e b a.1 ∧ dFr [] [22, 24] q a.1 ∧ i ≤ b ∧ b ≤ m) (fun (a : dS × Int32 × Int32) => (2802 - Int32.toInt (a.1.1 0 22)).toNat) ?_ _ ⟨i, h, dFr.rf, Nat.le_refl i, hn.2.1⟩ _ (dF_gt ?_)
  · intro a ha k hk
    obtain ⟨qa, x1, x2⟩ := a
    obtain ⟨b, h, hF, hb1, hb2⟩ := ha
    have h : EvQ o f e b qa := h
    have hF : dFr [] [22, 24] q qa := hF
    have hgo := h.2.2.1
    have he := h.2.2.2.2.1
    show dOk (zX10_plainOf_2b kV (fun q x1 x2 => k (q, x1, x2)) qa x1 x2) _
    unfold zX10_plainOf_2b zX10_plainOf_20 zX10_plainOf_38
    refine dOk_B (ev_pass 7 (by decide) h) (fun r1 q3 h3 => ?_)
    rcases h3 with ⟨z0, z1, z2, z3⟩ | ⟨z0, z1, z2⟩
    · have z0 : r1 = 1 := z0
      have z1 : lawC f e b = 7 := z1
      have z2 : EvQ o f e (b + 1) q3 := z2
      have hbe : b < e := lawC_in (f := f) (e := e) (i := b) (by omega)
      have hbm : ¬ b = m := fun z => hn.2.2 (by rw [← z]; exact z1)
      subst z0
      rw [if_neg (by decide)]
      have hback : ∀ y : Int32, dOk (k (q3, x1, y)) (fun r => EvQ o f e j r.2 ∧ dFr [] [22, 24] q r.2 ∧ (r.1.toInt = 0 ∨ r.1.toInt = 1)) := by
        intro y
        refine hk (q3, x1, y) ⟨b + 1, z2, fr_t hF z3, by omega, by omega⟩ ?_
        have hz : Int32.toInt (q3.1 0 22) = ((b + 1 : Nat) : Int) := z2.2.2.1
        have hz2 : ((b + 1 : Nat) : Int) = (b : Int) + 1 := by omega
        show (2802 - Int32.toInt (q3.1 0 22)).toNat < (2802 - Int32.toInt (qa.1 0 22)).toNat
        omega
      exact dOk_eq rfl rfl (fun _ _ => hback 1) (fun _ _ => hback 0)
    · have z0 : r1 = 0 := z0
      have z1 : ¬ lawC f e b = 7 := z1
      have z2 : q3 = qa := z2
      have hbm : b = m := by
        rcases Nat.lt_or_ge b m with c | c
        · exact absurd (hn.1 b hb1 c) z1
        · omega
      subst z0 z2 hbm
      rw [if_pos rfl]
      refine dOk_B (hp q3 x1 b j h hX) (fun r4 q6 hr => ?_)
      obtain ⟨h6, hF6, _⟩ := hr
      exact dOk_eq rfl rfl (fun _ _ => dOk_G (by decide) (dOk_some ⟨h6, fr_t hF hF6, Or.inl (by show Int32.toInt 0 = 0; decide)⟩)) (fun _ _ => dOk_G (by decide) (dOk_some ⟨h6, fr_t hF hF6, Or.inr (by show Int32.toInt 1 = 1; decide)⟩))
  · have := h.2.2.1
    show (2802 - Int32.toInt (q.1 0 22)).toNat < 1000000000000
    omega
theorem ev_both {kV : dS → Int32 → Option (Int32 × dS)} {o : Bool} {f : Nat → Int32} {e d : Nat} (hp : EvB o f e (gPlain o (lawC f e) (lawV f) d) (zX10_plainOf kV)) : EvB o f e (gSeq (fun a => lawC f e a = 6) (gPlain o (lawC f e) (lawV f) d)) (zX10_bothOf kV) := by
  intro q p1 i j h hX
  obtain ⟨m, hXm, ht⟩ := gEnd_tail hX
  unfold zX10_bothOf
  refine dOk_B (hp q p1 i m h hXm) (fun r q3 hr => ?_)
  obtain ⟨h3, hF3, hb3⟩ := hr
  unfold zX10_bothOf_6
  refine dFix_ok (fun (a : dS × Int32 × Int32) => (∃ m : Nat, EvQ o f e m a.1 ∧ dFr [] [22, 24] q a.1 ∧ ((¬ lawC f e m = 6 ∧ j = m) ∨ (lawC f e m = 6 ∧ gSeq (fun a => lawC f e a = 6) (gPlain o (lawC f e) (lawV f) d) (m + 1) j))) ∧ (a.2.2.toInt = 0 ∨ a.2.2.toInt = 1)) (fun (a : dS × Int32 × Int32) => (2802 - Int32.toInt (a.1.1 0 22)).toNat) ?_ _ ⟨⟨m, h3, hF3, ht⟩, hb3⟩ _ (dF_gt ?_)
  · intro a ha k hk
    obtain ⟨qa, x1, x2⟩ := a
    obtain ⟨⟨m, h, hF, ht⟩, hb⟩ := ha
    have h : EvQ o f e m qa := h
    have hF : dFr [] [22, 24] q qa := hF
    have hb : x2.toInt = 0 ∨ x2.toInt = 1 := hb
    have hgo := h.2.2.1
    have he := h.2.2.2.2.1
    show dOk (zX10_bothOf_6b kV (fun q x1 x2 => k (q, x1, x2)) qa x1 x2) _
    unfold zX10_bothOf_6b
    refine dOk_B (ev_pass 6 (by decide) h) (fun r1 q3 h3 => ?_)
    rcases h3 with ⟨z0, z1, z2, z3⟩ | ⟨z0, z1, z2⟩
    · have z0 : r1 = 1 := z0
      have z1 : lawC f e m = 6 := z1
      have z2 : EvQ o f e (m + 1) q3 := z2
      subst z0
      rw [if_neg (by decide)]
      rcases ht with ⟨hn, _⟩ | ⟨_, hs⟩
      · exact absurd z1 hn
      obtain ⟨m', hXm', ht'⟩ := gEnd_tail hs
      have hmm := gPlain_mono d _ _ hXm'
      have hme : m < e := lawC_in (f := f) (e := e) (i := m) (by omega)
      have hback : ∀ (q' : dS) (v : Int32), (v.toInt = 0 ∨ v.toInt = 1) → EvQ o f e m' q' → dFr [] [22, 24] q q' → dOk (k (q', x1, v)) (fun r => EvQ o f e j r.2 ∧ dFr [] [22, 24] q r.2 ∧ (r.1.toInt = 0 ∨ r.1.toInt = 1)) := by
        intro q' v hv h' hF'
        refine hk (q', x1, v) ⟨⟨m', h', hF', ht'⟩, hv⟩ ?_
        have := h'.2.2.1
        show (2802 - Int32.toInt (q'.1 0 22)).toNat < (2802 - Int32.toInt (qa.1 0 22)).toNat
        omega
      have h29 : ∀ y0 : Int32, dOk (zX10_bothOf_29 kV (fun q x1 x2 => k (q, x1, x2)) q3 x1 x2 y0) (fun r => EvQ o f e j r.2 ∧ dFr [] [22, 24] q r.2 ∧ (r.1.toInt = 0 ∨ r.1.toInt = 1)) := by
        intro y0
        unfold zX10_bothOf_29 zX10_bothOf_45 zX10_bothOf_46
        refine dOk_B (hp q3 y0 (m + 1) m' z2 hXm') (fun r4 q4 hr => ?_)
        obtain ⟨h4, hF4, hb4⟩ := hr
        have hF5 := fr_t hF (fr_t z3 hF4)
        exact dOk_eq rfl rfl (fun _ _ => hback q4 0 (by decide) h4 hF5) (fun _ _ => dOk_eq rfl rfl (fun _ _ => hback q4 0 (by decide) h4 hF5) (fun _ _ => hback q4 1 (by decide) h4 hF5))
      unfold zX10_bothOf_28
      exact dOk_eq rfl rfl (fun _ _ => h29 0) (fun _ _ => dOk_eq rfl rfl (fun _ _ => h29 0) (fun _ _ => h29 1))
    · have z0 : r1 = 0 := z0
      have z1 : ¬ lawC f e m = 6 := z1
      have z2 : q3 = qa := z2
      subst z0 z2
      rw [if_pos rfl]
      rcases ht with ⟨_, rfl⟩ | ⟨hop, _⟩
      · exact dOk_G (dbl_ok hb) (dOk_some ⟨h, hF, hb⟩)
      · exact absurd hop z1
  · have h9 : Int32.toInt (q3.1 0 22) = (m : Int) := h3.2.2.1
    show (2802 - Int32.toInt (q3.1 0 22)).toNat < 1000000000000
    omega
theorem ev_test_o {kV : dS → Int32 → Option (Int32 × dS)} {o : Bool} {f : Nat → Int32} {e d : Nat} (hp : EvB o f e (gSeq (fun a => lawC f e a = 6) (gPlain o (lawC f e) (lawV f) d)) (zX10_bothOf kV)) : EvB o f e (gTest o (lawC f e) (lawV f) d) (zX10_testOf_o kV) := by
  intro q p1 i j h hX
  obtain ⟨m, hXm, ht⟩ := gEnd_tail hX
  unfold zX10_testOf_o
  refine dOk_B (hp q p1 i m h hXm) (fun r q3 hr => ?_)
  obtain ⟨h3, hF3, hb3⟩ := hr
  unfold zX10_testOf_6
  refine dFix_ok (fun (a : dS × Int32 × Int32) => (∃ m : Nat, EvQ o f e m a.1 ∧ dFr [] [22, 24] q a.1 ∧ ((¬ lawC f e m = 5 ∧ j = m) ∨ (lawC f e m = 5 ∧ gSeq (fun a => lawC f e a = 5) (gSeq (fun a => lawC f e a = 6) (gPlain o (lawC f e) (lawV f) d)) (m + 1) j))) ∧ (a.2.2.toInt = 0 ∨ a.2.2.toInt = 1)) (fun (a : dS × Int32 × Int32) => (2802 - Int32.toInt (a.1.1 0 22)).toNat) ?_ _ ⟨⟨m, h3, hF3, ht⟩, hb3⟩ _ (dF_gt ?_)
  · intro a ha k hk
    obtain ⟨qa, x1, x2⟩ := a
    obtain ⟨⟨m, h, hF, ht⟩, hb⟩ := ha
    have h : EvQ o f e m qa := h
    have hF : dFr [] [22, 24] q qa := hF
    have hb : x2.toInt = 0 ∨ x2.toInt = 1 := hb
    have hgo := h.2.2.1
    have he := h.2.2.2.2.1
    show dOk (zX10_testOf_6b kV (fun q x1 x2 => k (q, x1, x2)) qa x1 x2) _
    unfold zX10_testOf_6b
    refine dOk_B (ev_pass 5 (by decide) h) (fun r1 q3 h3 => ?_)
    rcases h3 with ⟨z0, z1, z2, z3⟩ | ⟨z0, z1, z2⟩
    · have z0 : r1 = 1 := z0
      have z1 : lawC f e m = 5 := z1
      have z2 : EvQ o f e (m + 1) q3 := z2
      subst z0
      rw [if_neg (by decide)]
      rcases ht with ⟨hn, _⟩ | ⟨_, hs⟩
      · exact absurd z1 hn
      obtain ⟨m', hXm', ht'⟩ := gEnd_tail hs
      have hmm := gBoth_mono hXm'
      have hme : m < e := lawC_in (f := f) (e := e) (i := m) (by omega)
      have hback : ∀ (q' : dS) (v : Int32), (v.toInt = 0 ∨ v.toInt = 1) → EvQ o f e m' q' → dFr [] [22, 24] q q' → dOk (k (q', x1, v)) (fun r => EvQ o f e j r.2 ∧ dFr [] [22, 24] q r.2 ∧ (r.1.toInt = 0 ∨ r.1.toInt = 1)) := by
        intro q' v hv h' hF'
        refine hk (q', x1, v) ⟨⟨m', h', hF', ht'⟩, hv⟩ ?_
        have := h'.2.2.1
        show (2802 - Int32.toInt (q'.1 0 22)).toNat < (2802 - Int32.toInt (qa.1 0 22)).toNat
        omega
      have h28 : ∀ y0 : Int32, dOk (zX10_testOf_28 kV (fun q x1 x2 => k (q, x1, x2)) q3 x1 x2 y0) (fun r => EvQ o f e j r.2 ∧ dFr [] [22, 24] q r.2 ∧ (r.1.toInt = 0 ∨ r.1.toInt = 1)) := by
        intro y0
        unfold zX10_testOf_28 zX10_testOf_40 zX10_testOf_45
        refine dOk_B (hp q3 y0 (m + 1) m' z2 hXm') (fun r4 q4 hr => ?_)
        obtain ⟨h4, hF4, hb4⟩ := hr
        have hF5 := fr_t hF (fr_t z3 hF4)
        exact dOk_eq rfl rfl (fun _ _ => dOk_eq rfl rfl (fun _ _ => hback q4 0 (by decide) h4 hF5) (fun _ _ => hback q4 1 (by decide) h4 hF5)) (fun _ _ => hback q4 1 (by decide) h4 hF5)
      unfold zX10_testOf_27
      exact dOk_eq rfl rfl (fun _ _ => h28 0) (fun _ _ => dOk_eq rfl rfl (fun _ _ => h28 1) (fun _ _ => h28 0))
    · have z0 : r1 = 0 := z0
      have z1 : ¬ lawC f e m = 5 := z1
      have z2 : q3 = qa := z2
      subst z0 z2
      rw [if_pos rfl]
      rcases ht with ⟨_, rfl⟩ | ⟨hop, _⟩
      · exact dOk_G (dbl_ok hb) (dOk_some ⟨h, hF, hb⟩)
      · exact absurd hop z1
  · have h9 : Int32.toInt (q3.1 0 22) = (m : Int) := h3.2.2.1
    show (2802 - Int32.toInt (q3.1 0 22)).toNat < 1000000000000
    omega
theorem ev_test {o : Bool} {f : Nat → Int32} {e : Nat} : ∀ (n d : Nat), d < n → d < 10 → EvB o f e (gTest o (lawC f e) (lawV f) d) (zX10_testOf n) := by
  intro n
  induction n with
  | zero => intro d hd; omega
  | succ n ih =>
    intro d hd hd2 q p1 i j h hX
    have h1 : EvB o f e (gTest o (lawC f e) (lawV f) d) (zX10_testOf_o (zX10_testOf n)) := ev_test_o (ev_both (ev_plain (ev_pos d hd2 (fun d' e' => ih d' (by omega) (by omega)))))
    exact h1 q p1 i j h hX
