/-! orders run: one beside the other -/
section D2
variable {α β γ δ ε ζ η : Type} {x : Option α} {P : α → β → Prop}
theorem d2_rBV {z : Option γ} {k : γ → Option (δ × ε)} {K : δ → ε → Option β} {R : γ → Prop} (h : dAll z R) (hk : ∀ c : γ, R c → d2 x (dB (k c) K) P) : d2 x (dB (dV z k) K) P := by
  intro a b ea eb
  obtain ⟨c, d, e1, e2⟩ := dB_some eb
  obtain ⟨u, e3, e4⟩ := dV_some e1
  refine hk u (h u e3) a b ea ?_
  rw [e4]; exact e2
theorem d2_rBif {c : Prop} [Decidable c] {y z : Option (δ × ε)} {K : δ → ε → Option β} (h1 : c → d2 x (dB y K) P) (h2 : ¬ c → d2 x (dB z K) P) : d2 x (dB (if c then y else z) K) P := by
  by_cases h : c
  · rw [if_pos h]; exact h1 h
  · rw [if_neg h]; exact h2 h
theorem d2_rBL {v : γ} {k : γ → Option (δ × ε)} {K : δ → ε → Option β} (h : ∀ w : γ, w = v → d2 x (dB (k w) K) P) : d2 x (dB (dL v k) K) P := h v rfl
theorem d2_BBB {z : Option (γ × δ)} {w : Option (ε × ζ)} {k : γ → δ → Option α} {m : ε → ζ → Option (ε × η)} {K : ε → η → Option β} {R : γ × δ → ε × ζ → Prop} (h : d2 z w R) (hk : ∀ (c : γ) (c2 : δ) (d : ε) (d2' : ζ), R (c, c2) (d, d2') → d2 (k c c2) (dB (m d d2') K) P) : d2 (dB z k) (dB (dB w m) K) P := by
  intro a b ea eb
  obtain ⟨c, d, e1, e2⟩ := dB_some eb
  obtain ⟨u, v, e3, e4⟩ := dB_some e1
  obtain ⟨u2, v2, e5, e6⟩ := dB_some ea
  refine hk u2 v2 u v (h _ _ e5 e3) a b e6 ?_
  rw [e4]; exact e2
end D2
theorem d2_fixB {α β α2 δ ε β2 : Type} {F : (α → Option β) → α → Option β} {G : (α2 → Option (δ × ε)) → α2 → Option (δ × ε)} {K : δ → ε → Option β2} {P : β → β2 → Prop} (I : α → α2 → Prop) (step : ∀ (k : α → Option β) (k2 : α2 → Option (δ × ε)), (∀ (a : α) (a2 : α2), I a a2 → d2 (k a) (dB (k2 a2) K) P) → ∀ (a : α) (a2 : α2), I a a2 → d2 (F k a) (dB (G k2 a2) K) P) : ∀ (n m : Nat) (a : α) (a2 : α2), I a a2 → d2 (dFix F n a) (dB (dFix G m a2) K) P := by
  intro n
  induction n with
  | zero => intro m a a2 _ x y e _; cases e
  | succ n ih =>
    intro m a a2 hI
    cases m with
    | zero => intro x y _ e; cases e
    | succ m => exact step (dFix F n) (dFix G m) (fun b b2 h => ih m b b2 h) a a2 hI
/-! a clause obeyed -/
theorem m_smallV (y : Int64) : dAll (zX10_small y) (fun r => (0 ≤ Int64.toInt y ∧ Int64.toInt y ≤ 1000000 ∧ Int32.toInt r = Int64.toInt y) ∨ (¬ (0 ≤ Int64.toInt y ∧ Int64.toInt y ≤ 1000000) ∧ r = -1)) := by
  have L0 : Int64.toInt 0 = 0 := by decide
  have L1 : Int64.toInt 1000000 = 1000000 := by decide
  unfold zX10_small zX10_small_14 zX10_small_20
  refine dA_lt (fun c => ?_) (fun c => ?_)
  · have u1 : Int64.toInt y < 0 := by
      rcases lgc y 0 with ⟨w1, w2⟩ | ⟨w1, w2⟩ | ⟨w1, w2⟩
      · omega
      · rw [w2] at c; exact absurd c (by decide)
      · rw [w2] at c; exact absurd c (by decide)
    exact dA_some (Or.inr ⟨by omega, rfl⟩)
  · have u1 : 0 ≤ Int64.toInt y := by
      rcases lgc y 0 with ⟨w1, w2⟩ | ⟨w1, w2⟩ | ⟨w1, w2⟩
      · rw [w2] at c; exact absurd c (by decide)
      · omega
      · omega
    refine dA_le (fun c2 => ?_) (fun c2 => ?_)
    · have u2 : Int64.toInt y ≤ 1000000 := by
        rcases lgc y 1000000 with ⟨w1, w2⟩ | ⟨w1, w2⟩ | ⟨w1, w2⟩
        · omega
        · omega
        · rw [w2] at c2; exact absurd c2 (by decide)
      exact dA_some (Or.inl ⟨u1, u2, l2i (by omega) (by omega)⟩)
    · have u2 : ¬ Int64.toInt y ≤ 1000000 := by
        rcases lgc y 1000000 with ⟨w1, w2⟩ | ⟨w1, w2⟩ | ⟨w1, w2⟩
        · rw [w2] at c2; exact absurd c2 (by decide)
        · rw [w2] at c2; exact absurd c2 (by decide)
        · omega
      exact dA_some (Or.inr ⟨by omega, rfl⟩)
theorem b_turn {q : dK} {q2 : dS} {p : Int32} {n : Nat} (hp : Int32.toInt p < 0 ∨ 1000000 < Int32.toInt p) : d2 (zX8_turnTop_s2_s20 q p) (zX10_turnsKept q2 (-1)) (ACT 0 n q q2) := by
  have d1 : Int32.toInt 1 = 1 := by decide
  have d6 : Int32.toInt 6 = 6 := by decide
  have dm : Int32.toInt (-1) = -1 := by decide
  refine d2_of (R := fun o => o = ((-1 : Int32), q)) (S := fun o => o = ((-1 : Int32), q2)) ?_ ?_ (fun a b ha hb => by rw [ha, hb]; exact ⟨rfl, Or.inl ⟨by show Int32.toInt (-1) < 0; omega, by show -6 ≤ Int32.toInt (-1); omega, kfr.rf, mf2.rf⟩⟩)
  · unfold zX8_turnTop_s2_s20 zX8_turnTop_s2_s20_11
    exact dA_lt (fun _ => dA_some rfl) (fun c => dA_le (fun c2 => absurd hp (by omega)) (fun _ => dA_some rfl))
  · unfold zX10_turnsKept
    refine dA_V (m_lies (-1) 1 6 d1 d6) (fun r z => ?_)
    rcases z with z | z
    · omega
    · rw [if_pos z.1]; exact dA_some rfl
theorem b_right {q : dK} {q2 : dS} {p : Int32} {n : Nat} (hp : Int32.toInt p < 0 ∨ 1000000 < Int32.toInt p) : d2 (zX8_rightAt_s2 q p) (zX10_rightsKept q2 (-1)) (ACT 1 n q q2) := by
  have d0 : Int32.toInt 0 = 0 := by decide
  have d5 : Int32.toInt 5 = 5 := by decide
  have d6 : Int32.toInt 6 = 6 := by decide
  have dm : Int32.toInt (-1) = -1 := by decide
  refine d2_of (R := fun o => o = ((-1 : Int32), q)) (S := fun o => o = ((-1 : Int32), q2)) ?_ ?_ (fun a b ha hb => by rw [ha, hb]; exact ⟨rfl, Or.inl ⟨by show Int32.toInt (-1) < 0; omega, by show -6 ≤ Int32.toInt (-1); omega, kfr.rf, mf2.rf⟩⟩)
  · unfold zX8_rightAt_s2 zX8_rightAt_s2_10
    exact dA_lt (fun _ => dA_some rfl) (fun c => dA_lt (fun c2 => absurd hp (by omega)) (fun _ => dA_some rfl))
  · unfold zX10_rightsKept
    refine dA_V (m_lies (-1) 0 5 d0 d5) (fun r z => ?_)
    rcases z with z | z
    · omega
    · rw [if_pos z.1]; exact dA_some rfl
theorem b_swap {q : dK} {q2 : dS} {p : Int32} {n : Nat} (hp : Int32.toInt p < 0 ∨ 1000000 < Int32.toInt p) : d2 (zX8_swapAt_s2 q p) (zX10_swapsKept q2 (-1)) (ACT 2 n q q2) := by
  have d0 : Int32.toInt 0 = 0 := by decide
  have d4 : Int32.toInt 4 = 4 := by decide
  have d5 : Int32.toInt 5 = 5 := by decide
  have dm : Int32.toInt (-1) = -1 := by decide
  refine d2_of (R := fun o => o = ((-1 : Int32), q)) (S := fun o => o = ((-1 : Int32), q2)) ?_ ?_ (fun a b ha hb => by rw [ha, hb]; exact ⟨rfl, Or.inl ⟨by show Int32.toInt (-1) < 0; omega, by show -6 ≤ Int32.toInt (-1); omega, kfr.rf, mf2.rf⟩⟩)
  · unfold zX8_swapAt_s2 zX8_swapAt_s2_9
    exact dA_lt (fun _ => dA_some rfl) (fun c => dA_lt (fun c2 => absurd hp (by omega)) (fun _ => dA_some rfl))
  · unfold zX10_swapsKept
    refine dA_V (m_lies (-1) 0 4 d0 d4) (fun r z => ?_)
    rcases z with z | z
    · omega
    · rw [if_pos z.1]; exact dA_some rfl
def KPO (kd : Int32) (n : Nat) (q o : dS) : Prop := Int32.toInt (o.1 0 32) = (hnx n : Nat) ∧ (∀ i k : Nat, i < hnx n → k < 15 → o.1 14 (15 * i + k) = hsh n (fun i => q.1 14 (15 * i + k)) (if k = 14 then kd else q.1 2 k) i) ∧ (∀ j k : Nat, ¬ j = 2 → ¬ j = 12 → ¬ j = 13 → ¬ j = 14 → ¬ (j = 0 ∧ ((22 ≤ k ∧ k ≤ 25) ∨ k = 28 ∨ k = 32)) → o.1 j k = q.1 j k) ∧ ∀ k : Nat, 14 ≤ k → o.1 2 k = q.1 2 k
def OBY (kd : Int32) (n : Nat) (q : dK) (q2 : dS) (o : Int32 × dK) (o2 : Int32 × dS) : Prop := o.1 = o2.1 ∧ ((Int32.toInt o.1 < 0 ∧ kfr q o.2 ∧ ∀ j k : Nat, ¬ j = 12 → ¬ (j = 0 ∧ 22 ≤ k ∧ k ≤ 25) → o2.2.1 j k = q2.1 j k) ∨ (0 ≤ Int32.toInt o.1 ∧ TWR 2 o.2 (o2.2.1 2) ∧ kR [2, 3, 4, 19, 21] q o.2 ∧ o2.2.1 0 28 = (if kd = 0 then o.1 else q2.1 0 28) ∧ KPO kd n q2 o2.2))
theorem OBY.of {kd : Int32} {n : Nat} {q : dK} {q2 : dS} {o : Int32 × dK} {o2 : Int32 × dS} (h : ACT kd n q q2 o o2) (hk : ¬ kd = 0) : OBY kd n q q2 o o2 := by
  obtain ⟨h1, h2⟩ := h
  refine ⟨h1, ?_⟩
  rcases h2 with ⟨a1, -, a3, a4⟩ | ⟨a1, a2, a3, a4⟩
  · exact Or.inl ⟨a1, a3, fun j k j12 j0 => a4.1 j k j12 j0⟩
  · obtain ⟨b1, b2, b3, b4, b5⟩ := a4
    refine Or.inr ⟨a1, a2, a3, ?_, b1, b2, fun j k j2 j12 j13 j14 j0 => b3 j k j2 j12 j13 j14 (by omega) (by omega), b4⟩
    rw [if_neg hk]
    exact b3 0 28 (by decide) (by decide) (by decide) (by decide) (by decide) (by decide)
theorem ja_obeys {q : dK} {q2 : dS} (kd p : Int32) {n : Nat} (hT : TC q) (hl : LRf q q2) (ht : TWR 2 q (q2.1 2)) (hm : Int32.toInt (q.1 21 8) = Int32.toInt (q2.1 2 27)) (h32 : Int32.toInt (q2.1 0 32) = (n : Int)) (hn : n ≤ 16) (hy : Int32.toInt (q.1 2 4) ≤ 999) (hk : 0 ≤ Int32.toInt kd ∧ Int32.toInt kd < 4) (h49 : Int32.toInt (q2.1 0 49) = 22 + Int32.toInt kd) (hv : ¬ Int32.toInt kd = 3 → Int64.toInt (q2.2 0 52) = Int32.toInt p) : d2 (zX8_act_s2_s20 q kd p) (zX10_obeys q2) (OBY kd n q q2) := by
  have d0 : Int32.toInt 0 = 0 := by decide
  have d1 : Int32.toInt 1 = 1 := by decide
  have dd2 : Int32.toInt 2 = 2 := by decide
  have d3 : Int32.toInt 3 = 3 := by decide
  have d22 : Int32.toInt 22 = 22 := by decide
  have d23 : Int32.toInt 23 = 23 := by decide
  have d24 : Int32.toInt 24 = 24 := by decide
  have d25 : Int32.toInt 25 = 25 := by decide
  have ty : Int32.toInt (q.1 2 4) = Int32.toInt (q2.1 2 13) := ht.2.2.2
  have hk4 : kd = 0 ∨ kd = 1 ∨ kd = 2 ∨ kd = 3 := by
    have z : Int32.toInt kd = 0 ∨ Int32.toInt kd = 1 ∨ Int32.toInt kd = 2 ∨ Int32.toInt kd = 3 := by omega
    rcases z with z | z | z | z
    · exact Or.inl (i_eq (z.trans d0.symm))
    · exact Or.inr (Or.inl (i_eq (z.trans d1.symm)))
    · exact Or.inr (Or.inr (Or.inl (i_eq (z.trans dd2.symm))))
    · exact Or.inr (Or.inr (Or.inr (i_eq (z.trans d3.symm))))
  have hsm : ¬ Int32.toInt kd = 3 → ∀ s : Int32, ((0 ≤ Int64.toInt (q2.2 0 52) ∧ Int64.toInt (q2.2 0 52) ≤ 1000000 ∧ Int32.toInt s = Int64.toInt (q2.2 0 52)) ∨ (¬ (0 ≤ Int64.toInt (q2.2 0 52) ∧ Int64.toInt (q2.2 0 52) ≤ 1000000) ∧ s = -1)) → s = p ∨ (s = -1 ∧ (Int32.toInt p < 0 ∨ 1000000 < Int32.toInt p)) := by
    intro h s z
    have e := hv h
    rcases z with z | z
    · exact Or.inl (i_eq (by omega))
    · exact Or.inr ⟨z.2, by omega⟩
  unfold zX8_act_s2_s20 zX10_obeys
  rcases hk4 with e | e | e | e <;> subst e
  · have e49 : q2.1 0 49 = 22 := i_eq (by omega)
    rw [if_pos rfl, e49, if_neg (show ¬ (22 : Int32) = 23 by decide), if_neg (show ¬ (22 : Int32) = 24 by decide), if_neg (show ¬ (22 : Int32) = 25 by decide)]
    refine d2_rV (m_smallV _) (fun s hs => ?_)
    have hj : d2 (zX8_turnTop_s2_s20 q p) (zX10_turnsKept q2 s) (ACT 0 n q q2) := by
      rcases hsm (by omega) s hs with e | ⟨e, e2⟩
      · rw [e]; exact ja_turn p hT hl ht hm h32 hn
      · rw [e]; exact b_turn e2
    refine d2_BB hj (fun r q4 r19 q21 a => ?_)
    obtain ⟨a1, a2⟩ := a
    replace a1 : r = r19 := a1
    subst a1
    replace a2 : (Int32.toInt r < 0 ∧ -6 ≤ Int32.toInt r ∧ kfr q q4 ∧ mf2 q2 q21) ∨ (0 ≤ Int32.toInt r ∧ TWR 2 q4 (q21.1 2) ∧ kR [2, 3, 4, 19, 21] q q4 ∧ KPD 0 n q2 q21) := a2
    unfold zX10_obeys_86
    rcases a2 with ⟨b1, -, b3, b4⟩ | ⟨b1, b2, b3, b4⟩
    · refine d2_rif (fun c => absurd (Int32.le_iff_toInt_le.mp c) (by omega)) (fun _ => d2_rL (fun q1 e1 => d2_some ⟨rfl, Or.inl ⟨b1, b3, fun j k j12 j0 => ?_⟩⟩))
      show q1.1 j k = q2.1 j k
      by_cases c : j = 0 ∧ k = 28
      · rw [c.1, c.2, e1, dui_e]; exact b4.1 0 28 (by decide) (by decide)
      · rw [e1, dui_x c]; exact b4.1 j k j12 j0
    · refine d2_rif (fun _ => d2_rL (fun q1 e1 => d2_some ⟨rfl, Or.inr ⟨b1, ?_, b3, ?_, ?_⟩⟩)) (fun c => absurd (Int32.le_iff_toInt_le.mpr (by omega)) c)
      · show TWR 2 q4 (q1.1 2)
        rw [e1, dui_o (by decide)]; exact b2
      · show q1.1 0 28 = _
        rw [e1, dui_e, if_pos rfl]
      · obtain ⟨c1, c2, c3, c4, c5⟩ := b4
        refine ⟨?_, fun i k hi hk => ?_, fun j k j2 j12 j13 j14 j0 => ?_, fun k hk => ?_⟩
        · show Int32.toInt (q1.1 0 32) = _
          rw [e1, dui_n (by decide)]; exact c1
        · show q1.1 14 _ = _
          rw [e1, dui_o (by decide)]; exact c2 i k hi hk
        · show q1.1 j k = _
          rw [e1, dui_x (by omega)]; exact c3 j k j2 j12 j13 j14 (by omega) (by omega)
        · show q1.1 2 k = _
          rw [e1, dui_o (by decide)]; exact c4 k hk
  · have e49 : q2.1 0 49 = 23 := i_eq (by omega)
    rw [if_neg (show ¬ (1 : Int32) = 0 by decide), if_pos rfl, e49, if_pos rfl]
    refine d2_rV (m_smallV _) (fun s hs => ?_)
    have hj : d2 (zX8_rightAt_s2 q p) (zX10_rightsKept q2 s) (ACT 1 n q q2) := by
      rcases hsm (by omega) s hs with e | ⟨e, e2⟩
      · rw [e]; exact ja_right p hT ht h32 hn
      · rw [e]; exact b_right e2
    exact d2_BB hj (fun r q4 r19 q21 a => d2_some (OBY.of a (by decide)))
  · have e49 : q2.1 0 49 = 24 := i_eq (by omega)
    rw [if_neg (show ¬ (2 : Int32) = 0 by decide), if_neg (show ¬ (2 : Int32) = 1 by decide), if_pos rfl, e49, if_neg (show ¬ (24 : Int32) = 23 by decide), if_pos rfl]
    refine d2_rV (m_smallV _) (fun s hs => ?_)
    have hj : d2 (zX8_swapAt_s2 q p) (zX10_swapsKept q2 s) (ACT 2 n q q2) := by
      rcases hsm (by omega) s hs with e | ⟨e, e2⟩
      · rw [e]; exact ja_swap p hT ht h32 hn
      · rw [e]; exact b_swap e2
    exact d2_BB hj (fun r q4 r19 q21 a => d2_some (OBY.of a (by decide)))
  · have e49 : q2.1 0 49 = 25 := i_eq (by omega)
    rw [if_neg (show ¬ (3 : Int32) = 0 by decide), if_neg (show ¬ (3 : Int32) = 1 by decide), if_neg (show ¬ (3 : Int32) = 2 by decide), if_pos rfl, e49, if_neg (show ¬ (25 : Int32) = 23 by decide), if_neg (show ¬ (25 : Int32) = 24 by decide), if_pos rfl]
    exact d2_BB (ja_pass hT hl ht hm (by omega) h32 hn) (fun r q4 r19 q21 a => d2_some (OBY.of a (by decide)))
/-! what holds between clauses -/
theorem LRf.s2 {q o : dK} {q2 o2 : dS} (h : LRf q q2) (h20 : o.1 20 2 = q.1 20 2) (hX : o.2.2 = q.2.2) (h2 : ∀ k : Nat, 14 ≤ k → o2.1 2 k = q2.1 2 k) : LRf o o2 := by
  have e : dTx o (q.1 20 2) = dTx q (q.1 20 2) := by
    unfold dTx
    rw [hX]
  unfold LRf at h ⊢
  rw [h20, e, h2 32 (by decide)]
  rcases h with h | ⟨h1, F, T, m, L, cs, vs, k1, k2, k3, k4, k5, k6⟩
  · exact Or.inl h
  · exact Or.inr ⟨h1, F, T, m, L, cs, vs, k1, k2, k3, by rw [h2 _ (by omega)]; exact k4, fun j hj => by rw [h2 _ (by omega), h2 _ (by omega)]; exact k5 j hj, k6⟩
def kO (q o : dK) : Prop := (∀ j k : Nat, j ∉ [2, 3, 4, 12, 19, 21, 23] → ¬ (j = 18 ∧ k = 1) → ¬ (j = 10 ∧ k = 2) → ¬ (j = 22 ∧ (k = 2 ∨ k = 3)) → o.1 j k = q.1 j k) ∧ (∀ j : Nat, ¬ j = 11 → o.2.1 j = q.2.1 j) ∧ o.2.2 = q.2.2 ∧ o.1 21 8 = q.1 21 8
theorem kO.t {q o u : dK} (h : kO q o) (k : kO o u) : kO q u := ⟨fun j i h1 h2 h3 h4 => (k.1 j i h1 h2 h3 h4).trans (h.1 j i h1 h2 h3 h4), fun j hj => (k.2.1 j hj).trans (h.2.1 j hj), k.2.2.1.trans h.2.2.1, k.2.2.2.trans h.2.2.2⟩
def mO (q o : dS) : Prop := (∀ j k : Nat, ¬ j = 2 → ¬ j = 12 → ¬ j = 13 → ¬ j = 14 → ¬ (j = 0 ∧ ((22 ≤ k ∧ k ≤ 25) ∨ k = 27 ∨ k = 28 ∨ k = 32 ∨ (47 ≤ k ∧ k ≤ 51))) → o.1 j k = q.1 j k) ∧ ∀ k : Nat, 14 ≤ k → o.1 2 k = q.1 2 k
theorem mO.t {q o u : dS} (h : mO q o) (k : mO o u) : mO q u := ⟨fun j i h1 h2 h3 h4 h5 => (k.1 j i h1 h2 h3 h4 h5).trans (h.1 j i h1 h2 h3 h4 h5), fun i hi => (k.2 i hi).trans (h.2 i hi)⟩
def ORI (N : Int) (Q : Int → Prop) (q0 : dK) (p0 : dS) (q : dK) (q2 : dS) : Prop := TC q ∧ Int32.toInt (q.1 2 4) ≤ 999 ∧ TWR 2 q (q2.1 2) ∧ HRl q q2 ∧ q.1 22 2 = q2.1 0 27 ∧ q.1 22 3 = q2.1 0 28 ∧ kO q0 q ∧ mO p0 q2 ∧ HM q2 N Q
theorem kO.vf {q o : dK} (h : vfr q o) : kO q o := ⟨fun j k h1 h2 _ _ => h.1 j k (fun z => h1 (by rw [z]; decide)) h2, fun _ _ => by rw [h.2], by rw [h.2], h.1 21 8 (by decide) (by decide)⟩
theorem kO.w {q o : dK} (h : k23 q o) : kO q o := ⟨fun j k h1 _ _ _ => h.1 j k (fun z => h1 (by rw [z]; decide)), fun _ _ => by rw [h.2], by rw [h.2], h.1 21 8 (by decide)⟩
theorem kO.kf {q o : dK} (h : kR [2, 3, 4, 19, 21] q o) : kO q o := ⟨fun j k h1 h2 _ _ => h.1 j k (fun z => h1 (by
    simp only [List.mem_cons, List.not_mem_nil, or_false] at z ⊢
    omega)) h2, fun _ _ => by rw [h.2.1], by rw [h.2.1], h.2.2⟩
/-- the last year stays the last -/
theorem c_passY (q : dK) (hT : TC q) (hy : Int32.toInt (q.1 2 4) ≤ 999) : dAll (zX8_passYear_s2_s20 q) (fun o => Int32.toInt (o.2.1 2 4) ≤ 999) := by
  have d0 : Int32.toInt 0 = 0 := by decide
  have d1 : Int32.toInt 1 = 1 := by decide
  have d999 : Int32.toInt 999 = 999 := by decide
  have f24 := rg_2_4 hT
  unfold zX8_passYear_s2_s20
  refine dA_lt (fun c => ?_) (fun _ => dA_some hy)
  unfold zX8_passYear_s2_s20_17
  refine dA_fix (fun (a : dK × Int32 × Int32) => TC a.1 ∧ Int32.toInt (a.1.1 2 4) = Int32.toInt (q.1 2 4)) ?_ dF _ ⟨hT, rfl⟩
  intro k17 hk a ha
  obtain ⟨qa, x2, x3⟩ := a
  obtain ⟨a1, a2⟩ := ha
  replace a1 : TC qa := a1
  replace a2 : Int32.toInt (qa.1 2 4) = Int32.toInt (q.1 2 4) := a2
  show dAll (zX8_passYear_s2_s20_17b (fun q x2 x3 => k17 (q, x2, x3)) qa x2 x3) _
  unfold zX8_passYear_s2_s20_17b
  refine dA_if (fun _ => ?_) (fun _ => dA_B (dA_of (ok_X1_tips_s20_s2 qa x3 a1)) (fun r1 q3 z => dA_V dA_tr (fun r4 _ => hk (q3, _, _) ⟨z.1, ?_⟩)))
  · unfold zX8_passYear_s2_s20_47
    refine dA_fix (fun (a : dK × Int32 × Int32) => Int32.toInt (a.1.1 2 4) = Int32.toInt (q.1 2 4)) ?_ dF _ a2
    intro k47 hk47 b hb
    obtain ⟨qb, y2, y3⟩ := b
    replace hb : Int32.toInt (qb.1 2 4) = Int32.toInt (q.1 2 4) := hb
    show dAll (zX8_passYear_s2_s20_47b (fun q x2 x3 => k47 (q, x2, x3)) qb y2 y3) _
    unfold zX8_passYear_s2_s20_47b
    refine dA_if (fun _ => dA_L (fun q1 e1 => dA_V dA_tr (fun r2 _ => dA_some ?_))) (fun _ => dA_G (fun _ => dA_L (fun v5 _ => dA_G (fun _ => dA_L (fun q7 e7 => hk47 (q7, _, _) ?_)))))
    · show Int32.toInt (q1.1 2 4) ≤ 999
      rw [e1, cui_e, ti_add hb d1 (by omega) (by omega)]; omega
    · show Int32.toInt (q7.1 2 4) = _
      rw [e7, cui_o (by decide)]; exact hb
  · have z2 : q3.1 2 4 = qa.1 2 4 := z.2.1.1 2 4 (by decide) (by decide)
    show Int32.toInt (q3.1 2 4) = _
    rw [z2]; exact a2
theorem c_actY (q : dK) (kd p : Int32) (hT : TC q) (hy : Int32.toInt (q.1 2 4) ≤ 999) : dAll (zX8_act_s2_s20 q kd p) (fun o => Int32.toInt (o.2.1 2 4) ≤ 999) := by
  unfold zX8_act_s2_s20
  refine dA_if (fun _ => dA_B (dA_of (ok_X8_turnTop_s2_s20 q p hT)) (fun r2 q4 z => dA_some ?_)) (fun _ => dA_if (fun _ => dA_B (dA_of (ok_X8_rightAt_s2 q p hT)) (fun r2 q4 z => dA_some ?_)) (fun _ => dA_if (fun _ => dA_B (dA_of (ok_X8_swapAt_s2 q p hT)) (fun r2 q4 z => dA_some ?_)) (fun _ => dA_if (fun _ => dA_B (c_passY q hT hy) (fun r2 q4 z => dA_some z)) (fun _ => dA_some hy))))
  · have z2 : q4.1 2 4 = q.1 2 4 := z.2.1.1 2 4 (by decide) (by decide)
    show Int32.toInt (q4.1 2 4) ≤ 999
    rw [z2]; exact hy
  · have z2 : q4.1 2 4 = q.1 2 4 := z.2.1.1 2 4 (by decide) (by decide)
    show Int32.toInt (q4.1 2 4) ≤ 999
    rw [z2]; exact hy
  · have z2 : q4.1 2 4 = q.1 2 4 := z.2.1.1 2 4 (by decide) (by decide)
    show Int32.toInt (q4.1 2 4) ≤ 999
    rw [z2]; exact hy
