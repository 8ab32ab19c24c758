/-! the reference's descent over tokens -/
theorem dui_x {q : dS} {j k j' i : Nat} {v : Int32} (h : ¬ (j' = j ∧ i = k)) : (dui q j k v).1 j' i = q.1 j' i := by
  by_cases c : j' = j
  · subst c
    exact dui_n (fun z => h ⟨rfl, z⟩)
  · rw [dui_o c]
theorem lgc (x y : Int64) : (x.toInt < y.toInt ∧ lg_cmp x y = -1) ∨ (x.toInt = y.toInt ∧ lg_cmp x y = 0) ∨ (y.toInt < x.toInt ∧ lg_cmp x y = 1) := by
  unfold lg_cmp
  by_cases c : x > y
  · rw [if_pos c]; exact Or.inr (Or.inr ⟨Int64.lt_iff_toInt_lt.mp c, rfl⟩)
  · rw [if_neg c]
    have h1 : ¬ y.toInt < x.toInt := fun z => c (Int64.lt_iff_toInt_lt.mpr z)
    by_cases d : x = y
    · rw [if_pos d]; exact Or.inr (Or.inl ⟨congrArg Int64.toInt d, rfl⟩)
    · rw [if_neg d]
      have h2 : ¬ x.toInt = y.toInt := fun z => d (Int64.toInt_inj.mp z)
      exact Or.inl ⟨by omega, rfl⟩
theorem l_of (x : Int64) (h0 : -2147483648 ≤ x.toInt) (h1 : x.toInt ≤ 2147483647) : ∃ a : Int32, x = Int32.toInt64 a ∧ a.toInt = x.toInt := by
  refine ⟨Int64.toInt32 x, ?_, l2i h0 h1⟩
  apply Int64.toInt_inj.mp
  rw [i2l, l2i h0 h1]
theorem ar_mul (a b : Int32) : (Int32.toInt64 a * Int32.toInt64 b : Int64).toInt = a.toInt * b.toInt := by
  have ha := ti_rg a
  have hb := ti_rg b
  have m1 : -4611686018427387904 ≤ a.toInt * b.toInt ∧ a.toInt * b.toInt ≤ 4611686018427387904 := by
    have hab : (a.toInt * b.toInt).natAbs ≤ 2147483648 * 2147483648 := by
      rw [Int.natAbs_mul]
      exact Nat.mul_le_mul (by omega) (by omega)
    generalize a.toInt * b.toInt = z at hab ⊢
    omega
  exact tl_mul (i2l a) (i2l b) (by omega) (by omega)
theorem ar_mod (a b : Int32) : (Int32.toInt64 a - Int32.toInt64 a / Int32.toInt64 b * Int32.toInt64 b : Int64).toInt = a.toInt.tmod b.toInt := by
  have ha := ti_rg a
  have hb := ti_rg b
  have la := i2l a
  have lb := i2l b
  have hd := j_tdiv a b
  have hq : (a.toInt.tdiv b.toInt).natAbs ≤ a.toInt.natAbs := Int.natAbs_tdiv_le_natAbs _ _
  have hmd : a.toInt.tmod b.toInt = a.toInt - b.toInt * a.toInt.tdiv b.toInt := Int.tmod_def _ _
  have hbd : (b.toInt * a.toInt.tdiv b.toInt).natAbs ≤ 2147483648 * 2147483648 := by
    rw [Int.natAbs_mul]
    exact Nat.mul_le_mul (by omega) (by omega)
  rw [Int.mul_comm] at hmd hbd
  have hm : (Int32.toInt64 a / Int32.toInt64 b * Int32.toInt64 b : Int64).toInt = a.toInt.tdiv b.toInt * b.toInt := by
    have hw : -4611686018427387904 ≤ a.toInt.tdiv b.toInt * b.toInt ∧ a.toInt.tdiv b.toInt * b.toInt ≤ 4611686018427387904 := by
      generalize a.toInt.tdiv b.toInt * b.toInt = w at hbd ⊢
      omega
    exact tl_mul hd lb (by omega) (by omega)
  rw [hmd]
  generalize a.toInt.tdiv b.toInt * b.toInt = w at hbd hm ⊢
  rw [tl_sub la hm (by omega) (by omega)]
theorem jn_2 {v w : Int} : jn 2 v w = jnR (v + w) := by unfold jn; rw [if_pos rfl]
theorem jn_3 {v w : Int} : jn 3 v w = jnR (v - w) := by unfold jn; rw [if_neg (by decide), if_pos rfl]
theorem jn_4 {v w : Int} : jn 4 v w = jnR (v * w) := by unfold jn; rw [if_neg (by decide), if_neg (by decide), if_pos rfl]
theorem jn_50 {o v w : Int} (ho : o = 5 ∨ o = 6) (h : w = 0) : jn o v w = none := by
  unfold jn
  rw [if_neg (by omega), if_neg (by omega), if_neg (by omega), if_neg (by omega), if_neg (by omega), if_neg (by omega), if_pos h]
theorem jn_5 {v w : Int} (h : ¬ w = 0) : jn 5 v w = jnR (v.tdiv w) := by
  unfold jn
  rw [if_neg (by decide), if_neg (by decide), if_neg (by decide), if_neg (by decide), if_neg (by decide), if_neg (by decide), if_neg h, if_pos rfl]
theorem jn_6 {v w : Int} (h : ¬ w = 0) : jn 6 v w = jnR (v.tmod w) := by
  unfold jn
  rw [if_neg (by decide), if_neg (by decide), if_neg (by decide), if_neg (by decide), if_neg (by decide), if_neg (by decide), if_neg h, if_neg (by decide)]
theorem jn_7 {v w : Int} : jn 7 v w = some (if v < w then 1 else 0) := by unfold jn; rw [if_neg (by decide), if_neg (by decide), if_neg (by decide), if_pos rfl]
theorem jn_8 {v w : Int} : jn 8 v w = some (if w < v then 1 else 0) := by unfold jn; rw [if_neg (by decide), if_neg (by decide), if_neg (by decide), if_neg (by decide), if_pos rfl]
theorem jn_9 {v w : Int} : jn 9 v w = some (if v = w then 1 else 0) := by unfold jn; rw [if_neg (by decide), if_neg (by decide), if_neg (by decide), if_neg (by decide), if_neg (by decide), if_pos rfl]
theorem jnR_b {x z : Int} (h : jnR x = some z) : z = x ∧ -1000000000 ≤ z ∧ z ≤ 1000000000 := by
  unfold jnR at h
  by_cases c : 1000000000 < x ∨ x < -1000000000
  · rw [if_pos c] at h; cases h
  · rw [if_neg c] at h
    have e := Option.some.inj h
    omega
theorem jn_b {o v w z : Int} (h : jn o v w = some z) : -1000000000 ≤ z ∧ z ≤ 1000000000 := by
  have h0 : ∀ (c : Prop) [Decidable c], some (if c then (1 : Int) else 0) = some z → -1000000000 ≤ z ∧ z ≤ 1000000000 := by
    intro c _ k
    have k2 := Option.some.inj k
    by_cases hc : c
    · rw [if_pos hc] at k2; omega
    · rw [if_neg hc] at k2; omega
  unfold jn at h
  by_cases c2 : o = 2
  · rw [if_pos c2] at h; exact (jnR_b h).2
  · rw [if_neg c2] at h
    by_cases c3 : o = 3
    · rw [if_pos c3] at h; exact (jnR_b h).2
    · rw [if_neg c3] at h
      by_cases c4 : o = 4
      · rw [if_pos c4] at h; exact (jnR_b h).2
      · rw [if_neg c4] at h
        by_cases c7 : o = 7
        · rw [if_pos c7] at h; exact h0 _ h
        · rw [if_neg c7] at h
          by_cases c8 : o = 8
          · rw [if_pos c8] at h; exact h0 _ h
          · rw [if_neg c8] at h
            by_cases c9 : o = 9
            · rw [if_pos c9] at h; exact h0 _ h
            · rw [if_neg c9] at h
              by_cases cw : w = 0
              · rw [if_pos cw] at h; cases h
              · rw [if_neg cw] at h
                by_cases c5 : o = 5
                · rw [if_pos c5] at h; exact (jnR_b h).2
                · rw [if_neg c5] at h; exact (jnR_b h).2
/-- all but where it stands, and whether it is broken -/
def ER (q0 q : dS) : Prop := (∀ j k : Nat, ¬ (j = 0 ∧ (k = 22 ∨ k = 24)) → q.1 j k = q0.1 j k) ∧ q.2 = q0.2
theorem ER.g {q0 q : dS} {k : Nat} {v : Int32} (h : ER q0 q) (hk : k = 22 ∨ k = 24) : ER q0 (dui q 0 k v) := ⟨fun a b hj => by rw [dui_x (fun z => hj ⟨z.1, by omega⟩)]; exact h.1 a b hj, h.2⟩
/-- the words of orders -/
def EKo (q0 : dS) (A : Nat → Int) : Prop := ∀ q : dS, ER q0 q → (∀ (j : Nat) (c k : Int32), j < 5 → Int32.toInt c = ((wcd_2 j : Nat) : Int) → dAll (zX10_orderValue q c k) (fun o => o.2 = q ∧ Int32.toInt o.1 = A j)) ∧ (∀ (j : Nat) (k : Int32), j < 6 → Int32.toInt k = (j : Int) → dAll (zX10_orderValue q 21 k) (fun o => o.2 = q ∧ Int32.toInt o.1 = A (5 + j)) ∧ dAll (zX10_orderValue q 15 k) (fun o => o.2 = q ∧ Int32.toInt o.1 = A (11 + j)))
/-- a text that is gone along: its tokens lie behind g0; A: what the words say -/
def EK (oo : Int) (cs vs A : Nat → Int) (g0 T : Nat) (q0 : dS) : Prop := g0 + T ≤ 2800 ∧ (∀ j : Nat, j < T → Int32.toInt (q0.1 2 (40 + (g0 + j))) = cs j ∧ Int32.toInt (q0.1 2 (2840 + (g0 + j))) = vs j) ∧ cs T = 0 ∧ Int32.toInt (q0.1 0 23) = ((g0 + T : Nat) : Int) ∧ Int32.toInt (q0.1 0 25) = oo ∧ (∀ j : Nat, -2147483648 ≤ A j ∧ A j ≤ 2147483647) ∧ (oo = 0 → ∀ j : Nat, j < 9 → Int32.toInt (q0.1 12 (wcd_3 j - 8)) = A j) ∧ (oo = 1 → EKo q0 A)
def EG (q0 : dS) (g0 T : Nat) (q : dS) (u : Nat) : Prop := ER q0 q ∧ u ≤ T ∧ Int32.toInt (q.1 0 22) = ((g0 + u : Nat) : Int)
/-- what a value is: lv: whether it counts; b, b2: whether it is broken ahead, behind -/
def RV (A : Nat → Int) (lv b b2 : Int32) (f : VF) (v : Int) : Prop := (lv = 0 → b = 0 → b2 = 0) ∧ (¬ b = 0 → ¬ b2 = 0) ∧ (¬ lv = 0 → b = 0 → (f A = some v ∧ b2 = 0) ∨ (f A = none ∧ ¬ b2 = 0))
section X5
variable {oo : Int} {cs vs A : Nat → Int} {g0 T : Nat} {q0 : dS}
theorem e_code (hK : EK oo cs vs A g0 T q0) (q : dS) {u : Nat} (h : EG q0 g0 T q u) (p : Int32) (hp : p = q.1 0 22) : dAll (zX10_codeAt q p) (fun o => o.2 = q ∧ Int32.toInt o.1 = cs u) := by
  subst hp
  have d40 : Int32.toInt 40 = 40 := by decide
  obtain ⟨h1, h2, h3⟩ := h
  have k1 := hK.1
  have e23 : Int32.toInt (q.1 0 23) = ((g0 + T : Nat) : Int) := by rw [h1.1 0 23 (by decide)]; exact hK.2.2.2.1
  unfold zX10_codeAt zX10_codeAt_21
  refine dA_le (fun c => dA_some ⟨rfl, ?_⟩) (fun c => dA_G (fun _ => dA_L (fun v2 e2 => dA_some ⟨rfl, ?_⟩)))
  · have e : u = T := by omega
    show Int32.toInt 0 = cs u
    rw [e, hK.2.2.1]; decide
  · show Int32.toInt v2 = cs u
    have t : Int32.toInt (40 + q.1 0 22 : Int32) = 40 + ((g0 + u : Nat) : Int) := ti_add d40 h3 (by omega) (by omega)
    have n := cl_eq (i := (40 + q.1 0 22 : Int32)) (by omega)
    rw [e2, show Int32.toNatClampNeg (40 + q.1 0 22 : Int32) = 40 + (g0 + u) by omega, h1.1 2 _ (by omega)]
    exact (hK.2.1 u (by omega)).1
theorem e_lt (hK : EK oo cs vs A g0 T q0) {u : Nat} (hu : u ≤ T) (hc : ¬ cs u = 0) : u < T := by
  rcases Nat.lt_or_ge u T with c | c
  · exact c
  · exact absurd hK.2.2.1 (by rw [show T = u by omega]; exact hc)
theorem e_go (hK : EK oo cs vs A g0 T q0) (q : dS) {u : Nat} (h : EG q0 g0 T q u) (hu : u < T) : EG q0 g0 T (dui q 0 22 (q.1 0 22 + 1 : Int32)) (u + 1) ∧ (dui q 0 22 (q.1 0 22 + 1 : Int32)).1 0 24 = q.1 0 24 := by
  have d1 : Int32.toInt 1 = 1 := by decide
  have k1 := hK.1
  obtain ⟨h1, h2, h3⟩ := h
  refine ⟨⟨h1.g (Or.inl rfl), by omega, ?_⟩, dui_n (by decide)⟩
  rw [dui_e, ti_add h3 d1 (by omega) (by omega)]; omega
theorem e_pass (hK : EK oo cs vs A g0 T q0) (q : dS) (p1 : Int32) {u : Nat} (h : EG q0 g0 T q u) (hp : ¬ Int32.toInt p1 = 0) : dAll (zX10_passes0 q p1) (fun o => (o.1 = 1 ∧ cs u = Int32.toInt p1 ∧ EG q0 g0 T o.2 (u + 1) ∧ o.2.1 0 24 = q.1 0 24) ∨ (o.1 = 0 ∧ ¬ cs u = Int32.toInt p1 ∧ o.2 = q)) := by
  unfold zX10_passes0 zX10_passes0_17 zX10_passes0_32
  refine dA_B (e_code hK q h _ rfl) (fun r1 q3 z => ?_)
  obtain ⟨z1, z2⟩ := z
  replace z1 : q3 = q := z1
  replace z2 : Int32.toInt r1 = cs u := z2
  subst z1
  refine dA_eq (fun _ c => dA_if (fun c1 => absurd c1 (by decide)) (fun _ => dA_L (fun q1 e1 => dA_G (fun _ => dA_some (Or.inl ?_))))) (fun _ c => dA_if (fun _ => dA_G (fun _ => dA_some (Or.inr ⟨rfl, by omega, rfl⟩))) (fun c1 => absurd rfl c1))
  have k := e_go hK q3 h (e_lt hK h.2.1 (by omega))
  rw [← e1] at k
  exact ⟨rfl, by omega, k.1, k.2⟩
/-- held within what a number may be -/
theorem e_bnd (q : dS) (y : Int64) (lv : Int32) : dAll (zX10_bounded q y lv) (fun o => (∀ j k : Nat, ¬ (j = 0 ∧ k = 24) → o.2.1 j k = q.1 j k) ∧ o.2.2 = q.2 ∧ (lv = 0 → q.1 0 24 = 0 → o.2.1 0 24 = 0) ∧ (¬ q.1 0 24 = 0 → ¬ o.2.1 0 24 = 0) ∧ (¬ lv = 0 → q.1 0 24 = 0 → (jnR y.toInt = some (Int64.toInt o.1) ∧ o.2.1 0 24 = 0) ∨ (jnR y.toInt = none ∧ ¬ o.2.1 0 24 = 0))) := by
  have hM : Int64.toInt 1000000000 = 1000000000 := by decide
  have hm : Int64.toInt (-1000000000) = -1000000000 := by decide
  have h20 : ∀ (x1 : Int64), (¬ lv = 0 → jnR y.toInt = none) → ¬ lv = 0 → dAll (zX10_bounded_20 q x1) (fun o => (∀ j k : Nat, ¬ (j = 0 ∧ k = 24) → o.2.1 j k = q.1 j k) ∧ o.2.2 = q.2 ∧ (lv = 0 → q.1 0 24 = 0 → o.2.1 0 24 = 0) ∧ (¬ q.1 0 24 = 0 → ¬ o.2.1 0 24 = 0) ∧ (¬ lv = 0 → q.1 0 24 = 0 → (jnR y.toInt = some (Int64.toInt o.1) ∧ o.2.1 0 24 = 0) ∨ (jnR y.toInt = none ∧ ¬ o.2.1 0 24 = 0))) := by
    intro x1 hn hl
    unfold zX10_bounded_20 zX10_bounded_25 zX10_bounded_37
    refine dA_L (fun q1 e1 => ?_)
    have e24 : q1.1 0 24 = 1 := by rw [e1, dui_e]
    have n24 : ¬ q1.1 0 24 = 0 := by rw [e24]; decide
    exact dA_if (fun c => absurd c n24) (fun _ => dA_some ⟨fun j k hj => by rw [e1, dui_x hj], by rw [e1]; rfl, fun c => absurd c hl, fun _ => n24, fun _ _ => Or.inr ⟨hn hl, n24⟩⟩)
  have h25 : (¬ lv = 0 → jnR y.toInt = some y.toInt) → dAll (zX10_bounded_25 q y) (fun o => (∀ j k : Nat, ¬ (j = 0 ∧ k = 24) → o.2.1 j k = q.1 j k) ∧ o.2.2 = q.2 ∧ (lv = 0 → q.1 0 24 = 0 → o.2.1 0 24 = 0) ∧ (¬ q.1 0 24 = 0 → ¬ o.2.1 0 24 = 0) ∧ (¬ lv = 0 → q.1 0 24 = 0 → (jnR y.toInt = some (Int64.toInt o.1) ∧ o.2.1 0 24 = 0) ∨ (jnR y.toInt = none ∧ ¬ o.2.1 0 24 = 0))) := by
    intro hs
    unfold zX10_bounded_25 zX10_bounded_37
    exact dA_if (fun c => dA_some ⟨fun _ _ _ => rfl, rfl, fun _ _ => c, fun d => absurd c d, fun hl _ => Or.inl ⟨hs hl, c⟩⟩) (fun c => dA_some ⟨fun _ _ _ => rfl, rfl, fun _ d => absurd d c, fun d => d, fun _ d => absurd d c⟩)
  have d0 : Int32.toInt 0 = 0 := by decide
  have d1 : Int32.toInt 1 = 1 := by decide
  have dm : Int32.toInt (-1) = -1 := by decide
  unfold zX10_bounded
  refine dA_if (fun c => h25 (fun d => absurd c d)) (fun c => dA_lt (fun c2 => h20 y (fun _ => ?_) c) (fun c2 => dA_le (fun c3 => h25 (fun _ => ?_)) (fun c3 => h20 y (fun _ => ?_) c)))
  · rcases lgc y 1000000000 with ⟨w1, w2⟩ | ⟨w1, w2⟩ | ⟨w1, w2⟩
    · rw [w2] at c2; omega
    · rw [w2] at c2; omega
    · unfold jnR
      rw [if_pos (Or.inl (by omega))]
  · have u1 : y.toInt ≤ 1000000000 := by
      rcases lgc y 1000000000 with ⟨w1, w2⟩ | ⟨w1, w2⟩ | ⟨w1, w2⟩
      · omega
      · omega
      · rw [w2] at c2; omega
    have u2 : -1000000000 ≤ y.toInt := by
      rcases lgc y (-1000000000) with ⟨w1, w2⟩ | ⟨w1, w2⟩ | ⟨w1, w2⟩
      · rw [w2] at c3; omega
      · omega
      · omega
    unfold jnR
    rw [if_neg (by omega)]
  · rcases lgc y (-1000000000) with ⟨w1, w2⟩ | ⟨w1, w2⟩ | ⟨w1, w2⟩
    · unfold jnR
      rw [if_pos (Or.inr (by omega))]
    · rw [w2] at c3; omega
    · rw [w2] at c3; omega
theorem EG.b {q q2 : dS} {u : Nat} (h : EG q0 g0 T q u) (h1 : ∀ j k : Nat, ¬ (j = 0 ∧ k = 24) → q2.1 j k = q.1 j k) (h2 : q2.2 = q.2) : EG q0 g0 T q2 u := ⟨⟨fun j k hj => (h1 j k (fun z => hj ⟨z.1, Or.inr z.2⟩)).trans (h.1.1 j k hj), h2.trans h.1.2⟩, h.2.1, by rw [h1 0 22 (by decide)]; exact h.2.2⟩
end X5
