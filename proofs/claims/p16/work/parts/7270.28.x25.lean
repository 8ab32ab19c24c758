/-! row: floors and bricks, both sides -/
abbrev RwT : Type := Nat × (Nat → Int32) × (Nat → Int32)
def rowC (s : RwT) (a b : Int32) : Prop := s.1 < 6 ∧ (0 ≤ Int32.toInt a ∧ Int32.toInt a ≤ 5) ∧ (0 ≤ Int32.toInt b ∧ Int32.toInt b ≤ 1) ∧ ¬ ∃ i : Nat, i < s.1 ∧ s.2.1 i = a
noncomputable def rowS (s : RwT) (a b : Int32) : RwT := @ite RwT (rowC s a b) (Classical.propDecidable _) (s.1 + 1, upd s.2.1 s.1 a, upd s.2.2 s.1 b) s
theorem rowS_y {s : RwT} {a b : Int32} (h : rowC s a b) : rowS s a b = (s.1 + 1, upd s.2.1 s.1 a, upd s.2.2 s.1 b) := if_pos h
theorem rowS_n {s : RwT} {a b : Int32} (h : ¬ rowC s a b) : rowS s a b = s := if_neg h
noncomputable def rowN (T : Nat → Int32) (s : RwT) : Nat → RwT
  | 0 => s
  | j + 1 => rowS (rowN T s j) (T (2 * j)) (T (2 * j + 1))
theorem rowN_s (T : Nat → Int32) (s : RwT) (j : Nat) : rowN T s (j + 1) = rowS (rowN T s j) (T (2 * j)) (T (2 * j + 1)) := rfl
theorem rowN_b (T : Nat → Int32) (s : RwT) (hs : s.1 ≤ 6) : ∀ j : Nat, s.1 ≤ (rowN T s j).1 ∧ (rowN T s j).1 ≤ s.1 + j ∧ (rowN T s j).1 ≤ 6 := by
  intro j
  induction j with
  | zero => exact ⟨Nat.le_refl _, Nat.le_refl _, hs⟩
  | succ j ih =>
    rw [rowN_s]
    by_cases c : rowC (rowN T s j) (T (2 * j)) (T (2 * j + 1))
    · rw [rowS_y c]
      have := c.1
      exact ⟨by show s.1 ≤ (rowN T s j).1 + 1; omega, by show (rowN T s j).1 + 1 ≤ s.1 + (j + 1); omega, by show (rowN T s j).1 + 1 ≤ 6; omega⟩
    · rw [rowS_n c]
      exact ⟨ih.1, by omega, ih.2.2⟩
theorem c_new (q : dK) (a b : Int32) {n : Nat} (h2 : Int32.toInt (q.1 2 2) = (n : Int)) (hn : n ≤ 6) : dAll (zX9_isNewFloor_s0 q a b) (fun o => o.2 = q ∧ ((o.1 = 1 ∧ (0 ≤ Int32.toInt a ∧ Int32.toInt a ≤ 5) ∧ (0 ≤ Int32.toInt b ∧ Int32.toInt b ≤ 1) ∧ ¬ ∃ i : Nat, i < n ∧ q.1 3 i = a) ∨ (o.1 = 0 ∧ ¬ ((0 ≤ Int32.toInt a ∧ Int32.toInt a ≤ 5) ∧ (0 ≤ Int32.toInt b ∧ Int32.toInt b ≤ 1) ∧ ¬ ∃ i : Nat, i < n ∧ q.1 3 i = a)))) := by
  unfold zX9_isNewFloor_s0 zX9_isNewFloor_s0_32 zX9_isNewFloor_s0_33
  refine dA_V (c_rank a) (fun r1 z1 => ?_)
  rcases z1 with ⟨e1, h1⟩ | ⟨e1, h1⟩
  · rw [if_neg (by rw [e1]; decide)]
    refine dA_V (c_bitP b) (fun r3 z3 => ?_)
    rcases z3 with ⟨e3, h3⟩ | ⟨e3, h3⟩
    · rw [if_neg (by rw [e3]; decide)]
      refine dA_B (c_has q a h2 hn) (fun r5 q7 z5 => ?_)
      obtain ⟨z5, y5⟩ := z5
      replace z5 : q7 = q := z5
      replace y5 : (r5 = 1 ∧ ∃ i : Nat, i < n ∧ q.1 3 i = a) ∨ (r5 = 0 ∧ ¬ ∃ i : Nat, i < n ∧ q.1 3 i = a) := y5
      subst z5
      rcases y5 with ⟨e5, h5⟩ | ⟨e5, h5⟩
      · rw [if_neg (by rw [e5]; decide)]
        exact dA_G (fun _ => dA_some ⟨rfl, Or.inr ⟨rfl, fun z => z.2.2 h5⟩⟩)
      · rw [if_pos e5]
        exact dA_G (fun _ => dA_some ⟨rfl, Or.inl ⟨rfl, h1, h3, h5⟩⟩)
    · rw [if_pos e3]
      exact dA_G (fun _ => dA_some ⟨rfl, Or.inr ⟨rfl, fun z => h3 z.2.1⟩⟩)
  · rw [if_pos e1]
    exact dA_G (fun _ => dA_some ⟨rfl, Or.inr ⟨rfl, fun z => h1 z.1⟩⟩)
/-- what row leaves here -/
def RWc (q o : dK) (s : RwT) : Prop := Int32.toInt (o.1 2 2) = (s.1 : Int) ∧ (∀ k : Nat, o.1 3 k = s.2.1 k ∧ o.1 4 k = s.2.2 k) ∧ (∀ j k : Nat, ¬ j = 3 → ¬ j = 4 → ¬ (j = 2 ∧ k = 2) → o.1 j k = q.1 j k) ∧ o.2 = q.2
theorem RWc.ad {q o u : dK} {s : RwT} {a b : Int32} (h : RWc q o s) (c : ADc o u s.1 a b) (hc : rowC s a b) : RWc q u (rowS s a b) := by
  obtain ⟨h1, h2, h3, h4⟩ := h
  obtain ⟨c1, c2, c3, c4, c5⟩ := c
  rw [rowS_y hc]
  refine ⟨by rw [c1]; rfl, fun k => ⟨?_, ?_⟩, fun j k j3 j4 j2 => (c4 j k j3 j4 j2).trans (h3 j k j3 j4 j2), c5.trans h4⟩
  · show u.1 3 k = (if k = s.1 then a else s.2.1 k)
    rw [c2 k, (h2 k).1]
  · show u.1 4 k = (if k = s.1 then b else s.2.2 k)
    rw [c3 k, (h2 k).2]
theorem c_row (q : dK) {n L : Nat} (hL : Int32.toInt (q.1 0 12) = (L : Int)) (hL4 : L ≤ 400) (h2 : Int32.toInt (q.1 2 2) = (n : Int)) (hn : n ≤ 6) (s : RwT) (hs : s = rowN (q.1 46) (n, q.1 3, q.1 4) (L / 2)) : dAll (zX9_row_s0_20 dF q 0 0 0) (fun o => Int32.toInt o.1 = (s.1 : Int) - n ∧ Int32.toInt (o.2.1 0 14) = ((L / 2 : Nat) : Int) - ((s.1 : Int) - n) + ((L % 2 : Nat) : Int) ∧ Int32.toInt (o.2.1 2 2) = (s.1 : Int) ∧ (∀ k : Nat, o.2.1 3 k = s.2.1 k ∧ o.2.1 4 k = s.2.2 k) ∧ o.2.1 10 2 = 0 ∧ (∀ j k : Nat, ¬ j = 3 → ¬ j = 4 → ¬ (j = 2 ∧ k = 2) → ¬ (j = 0 ∧ (k = 12 ∨ k = 14 ∨ k = 18)) → ¬ (j = 10 ∧ k = 2) → o.2.1 j k = q.1 j k) ∧ o.2.2 = q.2) := by
  have d0 : Int32.toInt 0 = 0 := by decide
  have d1 : Int32.toInt 1 = 1 := by decide
  have dd2 : Int32.toInt 2 = 2 := by decide
  subst hs
  have hb := rowN_b (q.1 46) (n, q.1 3, q.1 4) hn
  generalize hs0 : ((n, q.1 3, q.1 4) : RwT) = s0 at hb ⊢
  have e0 : s0.1 = n := by rw [← hs0]
  rw [e0] at hb
  unfold zX9_row_s0_20
  refine dA_fix (fun (a : dK × Int32 × Int32 × Int32) => ∃ j e : Nat, (e = 0 ∨ (e = 1 ∧ 2 * j + 1 = L)) ∧ 2 * j ≤ L ∧ Int32.toInt a.2.2.2 = 2 * (j : Int) + 2 * (e : Int) ∧ Int32.toInt a.2.1 = ((rowN (q.1 46) s0 j).1 : Int) - n ∧ Int32.toInt a.2.2.1 = (j : Int) - (((rowN (q.1 46) s0 j).1 : Int) - n) + (e : Int) ∧ RWc q a.1 (rowN (q.1 46) s0 j)) ?_ dF _ ⟨0, 0, Or.inl rfl, Nat.zero_le _, d0, ?_, ?_, ?_⟩
  · intro k20 hk a ha
    obtain ⟨qa, x1, x2, x3⟩ := a
    obtain ⟨j, e, he, hj, a3, a1, a2, R⟩ := ha
    replace a3 : Int32.toInt x3 = 2 * (j : Int) + 2 * (e : Int) := a3
    replace a1 : Int32.toInt x1 = ((rowN (q.1 46) s0 j).1 : Int) - n := a1
    replace a2 : Int32.toInt x2 = (j : Int) - (((rowN (q.1 46) s0 j).1 : Int) - n) + (e : Int) := a2
    replace R : RWc q qa (rowN (q.1 46) s0 j) := R
    have hbj := hb j
    show dAll (zX9_row_s0_20b (fun q x1 x2 x3 => k20 (q, x1, x2, x3)) qa x1 x2 x3) _
    have hR := R
    obtain ⟨R1, R2, R3, R4⟩ := R
    have e12 : qa.1 0 12 = q.1 0 12 := R3 0 12 (by decide) (by decide) (by decide)
    have brick : ∀ (qb : dK) (j' e' : Nat), (e' = 0 ∨ (e' = 1 ∧ 2 * j' + 1 = L)) → 2 * j' ≤ L → 2 * (j' : Int) + 2 * (e' : Int) = 2 * (j : Int) + 2 * (e : Int) + 2 → rowN (q.1 46) s0 j' = rowN (q.1 46) s0 j → qb = qa → dAll (zX9_row_s0_92 (fun q x1 x2 x3 => k20 (q, x1, x2, x3)) qb x1 x2 x3) (fun o => Int32.toInt o.1 = ((rowN (q.1 46) s0 (L / 2)).1 : Int) - n ∧ Int32.toInt (o.2.1 0 14) = ((L / 2 : Nat) : Int) - (((rowN (q.1 46) s0 (L / 2)).1 : Int) - n) + ((L % 2 : Nat) : Int) ∧ Int32.toInt (o.2.1 2 2) = ((rowN (q.1 46) s0 (L / 2)).1 : Int) ∧ (∀ k : Nat, o.2.1 3 k = (rowN (q.1 46) s0 (L / 2)).2.1 k ∧ o.2.1 4 k = (rowN (q.1 46) s0 (L / 2)).2.2 k) ∧ o.2.1 10 2 = 0 ∧ (∀ j k : Nat, ¬ j = 3 → ¬ j = 4 → ¬ (j = 2 ∧ k = 2) → ¬ (j = 0 ∧ (k = 12 ∨ k = 14 ∨ k = 18)) → ¬ (j = 10 ∧ k = 2) → o.2.1 j k = q.1 j k) ∧ o.2.2 = q.2) := by
      intro qb j' e' h1 h2' h3 h4 h5
      unfold zX9_row_s0_92 zX9_row_s0_95
      refine hk (qb, x1, x2 + 1, x3 + 2) ⟨j', e', h1, h2', ?_, ?_, ?_, ?_⟩
      · show Int32.toInt (x3 + 2) = _
        rw [ti_add a3 dd2 (by omega) (by omega)]; omega
      · show Int32.toInt x1 = _
        rw [h4]; exact a1
      · show Int32.toInt (x2 + 1) = _
        rw [h4, ti_add a2 d1 (by omega) (by omega)]; omega
      · show RWc q qb _
        rw [h4, h5]; exact hR
    unfold zX9_row_s0_20b
    rw [e12]
    refine dA_le (fun c => ?_) (fun c => ?_)
    · have hj2 : j = L / 2 ∧ (e : Int) = ((L % 2 : Nat) : Int) := by omega
      obtain ⟨hj2, he2⟩ := hj2
      subst hj2
      unfold zX0_clear_s10
      refine dA_L (fun q1 e1 => dA_L (fun q2 e2 => dA_V (R := fun u => u = cui q2 10 2 0) (dA_L (fun q3 e3 => dA_some e3)) (fun q5 e5 => dA_B (c_accept q5 x1) (fun r6 q8 y => dA_some ⟨?_, ?_, ?_, fun k => ?_, ?_, fun j k j3 j4 j2 j0 j10 => ?_, ?_⟩))))
      · have y1 : r6 = x1 := y.1
        show Int32.toInt r6 = _
        rw [y1]; exact a1
      · have y2 : q8 = cui q5 0 18 0 := y.2
        show Int32.toInt (q8.1 0 14) = _
        rw [y2, cui_n (by decide), e5, cui_o (by decide), e2, cui_e, a2, he2]
      · have y2 : q8 = cui q5 0 18 0 := y.2
        show Int32.toInt (q8.1 2 2) = _
        rw [y2, cui_o (by decide), e5, cui_o (by decide), e2, cui_o (by decide), e1, cui_o (by decide)]; exact R1
      · have y2 : q8 = cui q5 0 18 0 := y.2
        show q8.1 3 k = _ ∧ q8.1 4 k = _
        rw [y2, cui_o (by decide), cui_o (by decide), e5, cui_o (by decide), cui_o (by decide), e2, cui_o (by decide), cui_o (by decide), e1, cui_o (by decide), cui_o (by decide)]; exact R2 k
      · have y2 : q8 = cui q5 0 18 0 := y.2
        show q8.1 10 2 = 0
        rw [y2, cui_o (by decide), e5, cui_e]
      · have y2 : q8 = cui q5 0 18 0 := y.2
        show q8.1 j k = _
        rw [y2, cui_x (fun z => j0 ⟨z.1, Or.inr (Or.inr z.2)⟩), e5, cui_x j10, e2, cui_x (fun z => j0 ⟨z.1, Or.inr (Or.inl z.2)⟩), e1, cui_x (fun z => j0 ⟨z.1, Or.inl z.2⟩)]
        exact R3 j k j3 j4 j2
      · have y2 : q8 = cui q5 0 18 0 := y.2
        show q8.2 = _
        rw [y2, e5, e2, e1]; exact R4
    · have ee : e = 0 := by omega
      subst ee
      have t1 : Int32.toInt (x3 + 1 : Int32) = 2 * (j : Int) + 1 := by rw [ti_add a3 d1 (by omega) (by omega)]; omega
      refine dA_le (fun c1 => brick qa j 1 (Or.inr ⟨rfl, by omega⟩) hj (by omega) rfl rfl) (fun c1 => ?_)
      have n3 : Int32.toNatClampNeg x3 = 2 * j := by have z := cl_eq (i := x3) (by omega); omega
      have n4 : Int32.toNatClampNeg (x3 + 1 : Int32) = 2 * j + 1 := by have z := cl_eq (i := (x3 + 1 : Int32)) (by omega); omega
      rw [n3, n4]
      have e46 : ∀ k : Nat, qa.1 46 k = q.1 46 k := fun k => R3 46 k (by decide) (by decide) (by omega)
      refine dA_G (fun _ => dA_L (fun v10 g10 => dA_G (fun _ => dA_L (fun v12 g12 => ?_))))
      rw [e46] at g10 g12
      have hex : (∃ i : Nat, i < (rowN (q.1 46) s0 j).1 ∧ qa.1 3 i = v10) ↔ ∃ i : Nat, i < (rowN (q.1 46) s0 j).1 ∧ (rowN (q.1 46) s0 j).2.1 i = v10 := by
        constructor
        · intro w
          obtain ⟨i, w1, w2⟩ := w
          exact ⟨i, w1, by rw [← (R2 i).1]; exact w2⟩
        · intro w
          obtain ⟨i, w1, w2⟩ := w
          exact ⟨i, w1, by rw [(R2 i).1]; exact w2⟩
      have hno : ¬ rowC (rowN (q.1 46) s0 j) v10 v12 → rowN (q.1 46) s0 (j + 1) = rowN (q.1 46) s0 j := fun hn => by
        rw [rowN_s, ← g10, ← g12, rowS_n hn]
      refine dA_B (c_new qa v10 v12 R1 hbj.2.2) (fun r13 q15 z => ?_)
      obtain ⟨z1, z2⟩ := z
      replace z1 : q15 = qa := z1
      subst z1
      replace z2 : (r13 = 1 ∧ (0 ≤ Int32.toInt v10 ∧ Int32.toInt v10 ≤ 5) ∧ (0 ≤ Int32.toInt v12 ∧ Int32.toInt v12 ≤ 1) ∧ ¬ ∃ i : Nat, i < (rowN (q.1 46) s0 j).1 ∧ q15.1 3 i = v10) ∨ (r13 = 0 ∧ ¬ ((0 ≤ Int32.toInt v10 ∧ Int32.toInt v10 ≤ 5) ∧ (0 ≤ Int32.toInt v12 ∧ Int32.toInt v12 ≤ 1) ∧ ¬ ∃ i : Nat, i < (rowN (q.1 46) s0 j).1 ∧ q15.1 3 i = v10)) := z2
      rcases z2 with ⟨z2, v1, v2, v3⟩ | ⟨z2, z3⟩
      · rw [if_neg (by rw [z2]; decide)]
        refine dA_G (fun _ => dA_L (fun v17 g17 => dA_G (fun _ => dA_L (fun v19 g19 => ?_))))
        rw [e46, ← g10] at g17
        rw [e46, ← g12] at g19
        subst g17 g19
        refine dA_B (c_add q15 v17 v19 R1) (fun r20 q22 w => ?_)
        rcases w with ⟨w1, w2, w3⟩ | ⟨w1, w2, w3⟩
        · replace w1 : r20 = 1 := w1
          replace w3 : ADc q15 q22 (rowN (q.1 46) s0 j).1 v17 v19 := w3
          rw [if_neg (by rw [w1]; decide)]
          have hc : rowC (rowN (q.1 46) s0 j) v17 v19 := ⟨w2, v1, v2, fun w => v3 (hex.mpr w)⟩
          have hN : rowN (q.1 46) s0 (j + 1) = rowS (rowN (q.1 46) s0 j) v17 v19 := by rw [rowN_s, ← g10, ← g12]
          have hN1 : (rowN (q.1 46) s0 (j + 1)).1 = (rowN (q.1 46) s0 j).1 + 1 := by rw [hN, rowS_y hc]
          unfold zX9_row_s0_95
          refine hk (q22, x1 + 1, x2, x3 + 2) ⟨j + 1, 0, Or.inl rfl, by omega, ?_, ?_, ?_, ?_⟩
          · show Int32.toInt (x3 + 2) = _
            rw [ti_add a3 dd2 (by omega) (by omega)]; omega
          · show Int32.toInt (x1 + 1) = _
            rw [ti_add a1 d1 (by omega) (by omega)]; omega
          · show Int32.toInt x2 = _
            omega
          · show RWc q q22 _
            rw [hN]; exact hR.ad w3 hc
        · replace w1 : r20 = 0 := w1
          rw [if_pos w1]
          exact brick q22 (j + 1) 0 (Or.inl rfl) (by omega) (by omega) (hno (fun z => w2 z.1)) w3
      · rw [if_pos z2]
        exact brick q15 (j + 1) 0 (Or.inl rfl) (by omega) (by omega) (hno (fun z => z3 ⟨z.2.1, z.2.2.1, fun w => z.2.2.2 (hex.mp w)⟩)) rfl
  · show Int32.toInt 0 = (s0.1 : Int) - n
    omega
  · show Int32.toInt 0 = ((0 : Nat) : Int) - ((s0.1 : Int) - n) + ((0 : Nat) : Int)
    omega
  · show RWc q q s0
    subst hs0
    exact ⟨h2, fun _ => ⟨rfl, rfl⟩, fun _ _ _ _ _ => rfl, rfl⟩
/-- what row leaves there -/
def RWm (q o : dS) (s : RwT) : Prop := Int32.toInt (o.1 2 29) = (s.1 : Int) ∧ (∀ k : Nat, k < 6 → o.1 2 k = s.2.1 k ∧ o.1 2 (6 + k) = s.2.2 k) ∧ (∀ k : Nat, 12 ≤ k → ¬ k = 29 → o.1 2 k = q.1 2 k) ∧ (∀ j k : Nat, ¬ j = 2 → ¬ (j = 0 ∧ k = 6) → o.1 j k = q.1 j k) ∧ o.2 = q.2
theorem RWm.ad {q o u : dS} {s : RwT} {a b : Int32} (h : RWm q o s) (c : ADm o u s.1 a b) (hc : rowC s a b) : RWm q u (rowS s a b) := by
  obtain ⟨h1, h2, h3, h4, h5⟩ := h
  obtain ⟨c1, c2, c3, c4⟩ := c
  have h6 := hc.1
  rw [rowS_y hc]
  refine ⟨by rw [c1]; rfl, fun k hk => ⟨?_, ?_⟩, fun k hk h29 => ?_, fun j k j2 j0 => (c3 j k j2).trans (h4 j k j2 j0), c4.trans h5⟩
  · show u.1 2 k = (if k = s.1 then a else s.2.1 k)
    rw [c2 k (by omega), if_neg (by omega), (h2 k hk).1]
  · show u.1 2 (6 + k) = (if k = s.1 then b else s.2.2 k)
    rw [c2 (6 + k) (by omega)]
    by_cases ck : k = s.1
    · rw [if_pos ck, if_pos (by omega)]
    · rw [if_neg ck, if_neg (by omega), if_neg (by omega), (h2 k hk).2]
  · rw [c2 k h29, if_neg (by omega), if_neg (by omega)]; exact h3 k hk h29
theorem m_row (q : dS) (p : Int32) (T : Nat → Int32) (s0 : RwT) {n L : Nat} (e0 : s0.1 = n) (hp : Int32.toInt p = (L : Int)) (hL4 : L ≤ 400) (hn : n ≤ 6) (h6 : Int32.toInt (q.1 0 6) = ((L % 2 : Nat) : Int)) (hT : ∀ i : Nat, i < L → tpR (Int32.toInt (T i)) (Int32.toInt (q.1 7 i))) (hR0 : RWm q q s0) : dAll (zX10_row_32 dF q p 0 0) (fun o => Int32.toInt o.1 = ((rowN T s0 (L / 2)).1 : Int) - n ∧ Int32.toInt (o.2.1 0 6) = ((L / 2 : Nat) : Int) - (((rowN T s0 (L / 2)).1 : Int) - n) + ((L % 2 : Nat) : Int) ∧ Int32.toInt (o.2.1 2 29) = ((rowN T s0 (L / 2)).1 : Int) ∧ (∀ k : Nat, k < 6 → o.2.1 2 k = (rowN T s0 (L / 2)).2.1 k ∧ o.2.1 2 (6 + k) = (rowN T s0 (L / 2)).2.2 k) ∧ (∀ k : Nat, 12 ≤ k → ¬ k = 29 → o.2.1 2 k = q.1 2 k) ∧ o.2.1 0 32 = 0 ∧ (∀ j k : Nat, ¬ j = 2 → ¬ (j = 0 ∧ (k = 0 ∨ k = 6 ∨ k = 32)) → o.2.1 j k = q.1 j k) ∧ o.2.2 = q.2) := by
  have d0 : Int32.toInt 0 = 0 := by decide
  have d1 : Int32.toInt 1 = 1 := by decide
  have dd2 : Int32.toInt 2 = 2 := by decide
  have dd6 : Int32.toInt 6 = 6 := by decide
  have hb := rowN_b T s0 (by omega)
  rw [e0] at hb
  unfold zX10_row_32
  refine dA_fix (fun (a : dS × Int32 × Int32 × Int32) => a.2.1 = p ∧ ∃ j : Nat, 2 * j ≤ L ∧ Int32.toInt a.2.2.2 = 2 * (j : Int) ∧ Int32.toInt a.2.2.1 = ((rowN T s0 j).1 : Int) - n ∧ Int32.toInt (a.1.1 0 6) = (j : Int) - (((rowN T s0 j).1 : Int) - n) + ((L % 2 : Nat) : Int) ∧ RWm q a.1 (rowN T s0 j)) ?_ dF _ ⟨rfl, 0, Nat.zero_le _, d0, ?_, ?_, hR0⟩
  · intro k32 hk a ha
    obtain ⟨qa, x1, x2, x3⟩ := a
    obtain ⟨a0, j, hj, a3, a2, a6, R⟩ := ha
    replace a0 : x1 = p := a0
    subst a0
    replace a3 : Int32.toInt x3 = 2 * (j : Int) := a3
    replace a2 : Int32.toInt x2 = ((rowN T s0 j).1 : Int) - n := a2
    replace a6 : Int32.toInt (qa.1 0 6) = (j : Int) - (((rowN T s0 j).1 : Int) - n) + ((L % 2 : Nat) : Int) := a6
    replace R : RWm q qa (rowN T s0 j) := R
    have hbj := hb j
    show dAll (zX10_row_32b (fun q x1 x2 x3 => k32 (q, x1, x2, x3)) qa x1 x2 x3) _
    have hR := R
    obtain ⟨R1, R2, R3, R4, R5⟩ := R
    have t2 : Int32.toInt (x3 + 2 : Int32) = 2 * (j : Int) + 2 := ti_add a3 dd2 (by omega) (by omega)
    unfold zX10_row_32b zX10_size
    refine dA_lt (fun c => ?_) (fun c => ?_)
    · have hj2 : j = L / 2 := by omega
      subst hj2
      refine dA_B (m_settled qa x2) (fun r1 q3 z => dA_some ?_)
      obtain ⟨z1, z2, z3, z4⟩ := z
      replace z1 : r1 = x2 := z1
      replace z2 : q3.1 0 32 = 0 := z2
      replace z3 : ∀ j k : Nat, ¬ (j = 0 ∧ k = 0) → ¬ (j = 0 ∧ k = 32) → q3.1 j k = qa.1 j k := z3
      replace z4 : q3.2 = qa.2 := z4
      refine ⟨by show Int32.toInt r1 = _; rw [z1]; exact a2, ?_, ?_, fun k hk => ?_, fun k hk h29 => ?_, z2, fun j k j2 j0 => ?_, z4.trans R5⟩
      · show Int32.toInt (q3.1 0 6) = _
        rw [z3 0 6 (by decide) (by decide)]; exact a6
      · show Int32.toInt (q3.1 2 29) = _
        rw [z3 2 29 (by decide) (by decide)]; exact R1
      · show q3.1 2 k = _ ∧ q3.1 2 (6 + k) = _
        rw [z3 2 k (by omega) (by omega), z3 2 (6 + k) (by omega) (by omega)]; exact R2 k hk
      · show q3.1 2 k = _
        rw [z3 2 k (by omega) (by omega)]; exact R3 k hk h29
      · show q3.1 j k = _
        rw [z3 j k (fun z => j0 ⟨z.1, Or.inl z.2⟩) (fun z => j0 ⟨z.1, Or.inr (Or.inr z.2)⟩)]
        exact R4 j k j2 (fun z => j0 ⟨z.1, Or.inr (Or.inl z.2)⟩)
    · have hj2 : 2 * j + 2 ≤ L := by omega
      have brick : ∀ qb : dS, rowN T s0 (j + 1) = rowN T s0 j → qb = qa → dAll (zX10_row_92 (fun q x1 x2 x3 => k32 (q, x1, x2, x3)) qb x1 x2 x3) (fun o => Int32.toInt o.1 = ((rowN T s0 (L / 2)).1 : Int) - n ∧ Int32.toInt (o.2.1 0 6) = ((L / 2 : Nat) : Int) - (((rowN T s0 (L / 2)).1 : Int) - n) + ((L % 2 : Nat) : Int) ∧ Int32.toInt (o.2.1 2 29) = ((rowN T s0 (L / 2)).1 : Int) ∧ (∀ k : Nat, k < 6 → o.2.1 2 k = (rowN T s0 (L / 2)).2.1 k ∧ o.2.1 2 (6 + k) = (rowN T s0 (L / 2)).2.2 k) ∧ (∀ k : Nat, 12 ≤ k → ¬ k = 29 → o.2.1 2 k = q.1 2 k) ∧ o.2.1 0 32 = 0 ∧ (∀ j k : Nat, ¬ j = 2 → ¬ (j = 0 ∧ (k = 0 ∨ k = 6 ∨ k = 32)) → o.2.1 j k = q.1 j k) ∧ o.2.2 = q.2) := by
        intro qb hN eb
        subst eb
        unfold zX10_row_92 zX10_row_93 zX10_row_118 zX10_row_129 zX10_row_146
        rw [if_pos rfl, if_pos rfl, if_pos rfl]
        refine dA_L (fun q1 e1 => hk (q1, x1, x2 + 0, x3 + 2) ⟨rfl, j + 1, by omega, by show Int32.toInt (x3 + 2) = _; omega, ?_, ?_, ?_⟩)
        · show Int32.toInt (x2 + 0) = _
          rw [hN, ti_add a2 d0 (by omega) (by omega)]; omega
        · show Int32.toInt (q1.1 0 6) = _
          rw [hN, e1, dui_e, ti_add a6 d1 (by omega) (by omega)]; omega
        · show RWm q q1 _
          rw [hN, e1]
          exact ⟨by rw [dui_o (by decide)]; exact R1, fun k hk => by rw [dui_o (by decide)]; exact R2 k hk, fun k hk h29 => by rw [dui_o (by decide)]; exact R3 k hk h29, fun j k j2 j0 => by rw [dui_x j0]; exact R4 j k j2 j0, R5⟩
      show dAll (if 6 ≤ (qa.1 2 29) then _ else _) _
      have n3 : Int32.toNatClampNeg x3 = 2 * j := by have z := cl_eq (i := x3) (by omega); omega
      have t1 : Int32.toInt (x3 + 1 : Int32) = 2 * (j : Int) + 1 := ti_add a3 d1 (by omega) (by omega)
      have n4 : Int32.toNatClampNeg (x3 + 1 : Int32) = 2 * j + 1 := by have z := cl_eq (i := (x3 + 1 : Int32)) (by omega); omega
      have e7 : ∀ k : Nat, qa.1 7 k = q.1 7 k := fun k => R4 7 k (by decide) (by omega)
      have u1 := hT (2 * j) (by omega)
      have u2 := hT (2 * j + 1) (by omega)
      rw [← e7] at u1 u2
      have hno : ¬ rowC (rowN T s0 j) (T (2 * j)) (T (2 * j + 1)) → rowN T s0 (j + 1) = rowN T s0 j := fun h => by rw [rowN_s, rowS_n h]
      unfold tpR at u1 u2
      rw [n3, n4]
      refine dA_le (fun c6 => brick qa (hno (fun z => by have := z.1; omega)) rfl) (fun c6 => ?_)
      refine dA_G (fun _ => dA_L (fun v8 g8 => dA_V (m_rank v8) (fun r9 z9 => ?_)))
      replace g8 : v8 = qa.1 7 (2 * j) := g8
      rcases z9 with ⟨e9, h9⟩ | ⟨e9, h9⟩
      · rw [if_neg (by rw [e9]; decide)]
        refine dA_G (fun _ => dA_L (fun v12 g12 => dA_V (m_bitP v12) (fun r13 z13 => ?_)))
        replace g12 : v12 = qa.1 7 (2 * j + 1) := g12
        rcases z13 with ⟨e13, h13⟩ | ⟨e13, h13⟩
        · rw [if_neg (by rw [e13]; decide)]
          refine dA_G (fun _ => dA_L (fun v16 g16 => ?_))
          replace g16 : v16 = qa.1 7 (2 * j) := g16
          rw [g8] at h9
          rw [g12] at h13
          have ea : T (2 * j) = qa.1 7 (2 * j) := i_eq (by omega)
          have eb : T (2 * j + 1) = qa.1 7 (2 * j + 1) := i_eq (by omega)
          refine dA_B (m_placeOf qa v16 R1 hbj.2.2) (fun r17 q19 z17 => ?_)
          obtain ⟨y1, y2⟩ := z17
          replace y1 : q19 = qa := y1
          replace y2 : (¬ r17 = -1 ∧ ∃ i : Nat, i < (rowN T s0 j).1 ∧ qa.1 2 i = v16) ∨ (r17 = -1 ∧ ¬ ∃ i : Nat, i < (rowN T s0 j).1 ∧ qa.1 2 i = v16) := y2
          subst y1
          have hex : (∃ i : Nat, i < (rowN T s0 j).1 ∧ q19.1 2 i = v16) ↔ ∃ i : Nat, i < (rowN T s0 j).1 ∧ (rowN T s0 j).2.1 i = T (2 * j) := by
            rw [g16, ← ea]
            constructor
            · intro w
              obtain ⟨i, w1, w2⟩ := w
              exact ⟨i, w1, by rw [← (R2 i (by omega)).1]; exact w2⟩
            · intro w
              obtain ⟨i, w1, w2⟩ := w
              exact ⟨i, w1, by rw [(R2 i (by omega)).1]; exact w2⟩
          rcases y2 with ⟨y2, y3⟩ | ⟨y2, y3⟩
          · rw [if_neg y2]
            exact brick q19 (hno (fun z => z.2.2.2 (hex.mp y3))) rfl
          · rw [if_pos y2]
            have hc : rowC (rowN T s0 j) (T (2 * j)) (T (2 * j + 1)) := ⟨by omega, by rw [ea]; exact h9, by rw [eb]; exact h13, fun w => y3 (hex.mpr w)⟩
            have hN1 : (rowN T s0 (j + 1)).1 = (rowN T s0 j).1 + 1 := by rw [rowN_s, rowS_y hc]
            unfold zX10_row_93
            rw [if_neg (by decide), n3, n4]
            refine dA_G (fun _ => dA_L (fun v2 g2 => dA_G (fun _ => dA_L (fun v4 g4 => dA_V (m_adds q19 v2 v4 R1 hc.1) (fun q7 hA => ?_)))))
            rw [← ea] at g2
            rw [← eb] at g4
            subst g2 g4
            unfold zX10_row_118 zX10_row_129 zX10_row_146
            rw [if_neg (by decide), if_neg (by decide)]
            have e76 : q7.1 0 6 = q19.1 0 6 := hA.2.2.1 0 6 (by decide)
            refine dA_L (fun q1 e1 => hk (q1, x1, x2 + 1, x3 + 2) ⟨rfl, j + 1, by omega, by show Int32.toInt (x3 + 2) = _; omega, ?_, ?_, ?_⟩)
            · show Int32.toInt (x2 + 1) = _
              rw [ti_add a2 d1 (by omega) (by omega)]; omega
            · show Int32.toInt (q1.1 0 6) = _
              rw [e1, dui_e, e76, ti_add a6 d0 (by omega) (by omega)]; omega
            · show RWm q q1 _
              have z := hR.ad hA hc
              rw [← rowN_s] at z
              obtain ⟨Z1, Z2, Z3, Z4, Z5⟩ := z
              rw [e1]
              exact ⟨by rw [dui_o (by decide)]; exact Z1, fun k hk => by rw [dui_o (by decide)]; exact Z2 k hk, fun k hk h29 => by rw [dui_o (by decide)]; exact Z3 k hk h29, fun j k j2 j0 => by rw [dui_x j0]; exact Z4 j k j2 j0, Z5⟩
        · rw [if_pos e13]
          rw [g8] at h9
          rw [g12] at h13
          exact brick qa (hno (fun z => h13 (by have := z.2.2.1; omega))) rfl
      · rw [if_pos e9]
        rw [g8] at h9
        exact brick qa (hno (fun z => h9 (by have := z.2.1; omega))) rfl
  · show Int32.toInt 0 = (s0.1 : Int) - n
    omega
  · show Int32.toInt (q.1 0 6) = ((0 : Nat) : Int) - ((s0.1 : Int) - n) + ((L % 2 : Nat) : Int)
    omega
/-- another tower, the rest as it was -/
theorem SRl.tw {q o : dK} {R S : Nat → Int32} (h : SRl 1 2 q R) (ht : TWR 2 o S) (kk : ∀ j k : Nat, (j = 1 ∨ j = 5 ∨ j = 6 ∨ j = 7) → o.1 j k = q.1 j k) (hX : Pfx q o) (hR : ∀ k : Nat, 14 ≤ k → ¬ k = 29 → S k = R k) : SRl 1 2 o S := by
  have h0 := h
  obtain ⟨s0, s1, s2, s3, s4, s5, s6, s7, s8, s9⟩ := h
  refine h0.g ht ?_ ?_ ?_ ?_ (kk 1 8 (by omega)) ?_ ?_ (fun i hi => ⟨?_, ?_⟩) (fun k => kk 7 k (by omega)) hX (fun k hk => hR k (by omega) (by omega))
  · rw [kk 1 1 (by omega), hR 26 (by decide) (by decide)]; exact s1
  · rw [kk 1 2 (by omega), hR 27 (by decide) (by decide)]; exact s2
  · rw [kk 1 3 (by omega), hR 28 (by decide) (by decide)]; exact s3
  · rw [kk 1 6 (by omega), hR 30 (by decide) (by decide)]; exact s4
  · rw [kk 1 9 (by omega), hR 32 (by decide) (by decide)]; exact s6
  · rw [hR 32 (by decide) (by decide)]; exact s7
  · rw [kk (1 + 4) i (by omega), hR _ (by omega) (by omega)]; exact (s8 i hi).1
  · rw [kk (1 + 5) i (by omega), hR _ (by omega) (by omega)]; exact (s8 i hi).2
theorem sf_row {q : dK} {q2 : dS} (hT : TC q) (ht : ltY q q2) (h : RFw q q2) : d2 (zX9_row_s0 q) (zX10_row q2) (fun o o2 => o.1 = o2.1 ∧ RFw o.2 o2.2 ∧ (q.1 0 14 = q2.1 0 6 → o.2.1 0 14 = o2.2.1 0 6)) := by
  have d0 : Int32.toInt 0 = 0 := by decide
  have dd2 : Int32.toInt 2 = 2 := by decide
  have f2 := rg_2_2 hT
  have hs := h.1
  have hh := hs.1
  obtain ⟨t1, t2, t3, t4⟩ := hh
  obtain ⟨L, hL4, hc, hm, hB⟩ := ht
  obtain ⟨n, hn⟩ : ∃ n : Nat, Int32.toInt (q.1 2 2) = (n : Int) := ⟨(Int32.toInt (q.1 2 2)).toNat, by omega⟩
  have hn6 : n ≤ 6 := by omega
  unfold zX9_row_s0 zX10_row
  refine d2_rL (fun q1 e1 => ?_)
  have m1 : ∀ j k : Nat, ¬ (j = 0 ∧ k = 13) → q1.1 j k = q2.1 j k := fun j k hj => by rw [e1, dui_x hj]
  have x1 : q1.2 = q2.2 := by rw [e1]; rfl
  have h' : RFw q q1 := h.fr (fun _ _ _ => rfl) rfl (Pfx.eq rfl) (fun j k hj => m1 j k (by omega)) (m1 0 32 (by decide))
  refine d2_lif (fun c => ?_) (fun c => ?_)
  · have L0 : (L : Int) = 0 := by rw [← hc, c]; exact d0
    refine d2_rif (fun _ => ?_) (fun w => absurd (i_eq (hm.trans (L0.trans d0.symm))) w)
    refine d2_mono (d2_and (h'.refA (-6)) (d2_lB (c_refuse q (-6)) (fun r q3 y => d2_rB (m_refuses q1 (-6)) (fun r' q4 z => d2_some (P := fun (o : Int32 × dK) (o2 : Int32 × dS) => q.1 0 14 = q2.1 0 6 → o.2.1 0 14 = o2.2.1 0 6) (fun e => ?_))))) (fun a b w => ⟨w.1.1, w.1.2, w.2⟩)
    have y2 : ∀ j k : Nat, ¬ j = 48 → ¬ (j = 0 ∧ k = 18) → q3.1 j k = q.1 j k := y.2.1
    have z2 : ∀ j k : Nat, ¬ j = 1 → ¬ (j = 0 ∧ k = 0) → q4.1 j k = q1.1 j k := z.2.1
    show q3.1 0 14 = q4.1 0 6
    rw [y2 0 14 (by decide) (by decide), z2 0 6 (by decide) (by decide), m1 0 6 (by decide)]; exact e
  · refine d2_rif (fun w => absurd (i_eq (hc.trans ((by rw [← hm, w] : (L : Int) = Int32.toInt 0)))) c) (fun _ => d2_rL (fun o1 g1 => ?_))
    have hr : Int32.toInt (o1.1 0 6) = ((L % 2 : Nat) : Int) := by
      rw [g1, dui_e, ti_rem hm dd2 (by omega) (by omega)]; omega
    have m3 : ∀ j k : Nat, ¬ (j = 0 ∧ (k = 13 ∨ k = 6)) → o1.1 j k = q2.1 j k := fun j k hj => by rw [g1, dui_x (fun z => hj ⟨z.1, Or.inr z.2⟩), m1 j k (fun z => hj ⟨z.1, Or.inl z.2⟩)]
    have x3 : o1.2 = q2.2 := by rw [g1]; exact x1
    have hR0 : RWm o1 o1 ((n, q.1 3, q.1 4) : RwT) := by
      refine ⟨?_, fun k hk => ⟨?_, ?_⟩, fun _ _ _ => rfl, fun _ _ _ _ => rfl, rfl⟩
      · rw [m3 2 29 (by decide), ← t1]; exact hn
      · rw [m3 2 k (by omega)]; exact (i_eq (t2 k hk).1).symm
      · rw [m3 2 (6 + k) (by omega)]; exact (i_eq (t2 k hk).2).symm
    refine d2_of (c_row q hc hL4 hn hn6 _ rfl) (m_row o1 (q2.1 0 13) (q.1 46) (n, q.1 3, q.1 4) rfl hm hL4 hn6 hr (fun i hi => by rw [m3 7 i (by omega)]; exact hB i hi) hR0) (fun a b ha hb => ?_)
    obtain ⟨a1, a2, a3, a4, a5, a6, a7⟩ := ha
    obtain ⟨b1, b2, b3, b4, b5, b6, b7, b8⟩ := hb
    have mk : ∀ j k : Nat, ¬ j = 2 → ¬ (j = 0 ∧ (k = 0 ∨ k = 6 ∨ k = 13 ∨ k = 32)) → b.2.1 j k = q2.1 j k := fun j k j2 j0 => by rw [b7 j k j2 (by omega), m3 j k (by omega)]
    refine ⟨i_eq (a1.trans b1.symm), h.st (hs.tw ⟨a3.trans b3.symm, fun i hi => ⟨?_, ?_⟩, ?_, ?_⟩ (fun j k hj => a6 j k (by omega) (by omega) (by omega) (by omega) (by omega)) (Pfx.eq (by rw [a7])) (fun k hk h29 => by rw [b5 k (by omega) h29, m3 2 k (by omega)])) (HRl.z a5 b6) (fun j k hj => a6 j k (by omega) (by omega) (by omega) (by omega) (by omega)) (by rw [a7]) (fun j k hj => mk j k (by omega) (by omega)), fun _ => i_eq (a2.trans b2.symm)⟩
    · rw [(a4 i).1, (b4 i hi).1]
    · rw [(a4 i).2, (b4 i hi).2]
    · rw [a6 2 3 (by decide) (by decide) (by decide) (by decide) (by decide), b5 12 (by decide) (by decide), m3 2 12 (by decide)]; exact t3
    · rw [a6 2 4 (by decide) (by decide) (by decide) (by decide) (by decide), b5 13 (by decide) (by decide), m3 2 13 (by decide)]; exact t4
