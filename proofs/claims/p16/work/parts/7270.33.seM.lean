/-! which ranks there are: the reference's side -/
def rkM (q : dS) (j s : Nat) : Nat → Int := fun i => Int32.toInt (q.1 j (s + i))
/-- the tower's ranks, and those of what can be undone -/
def HM (q : dS) (N : Int) (P : Int → Prop) : Prop := RS (Int32.toInt (q.1 2 29)) (rkM q 2 0) N P ∧ 0 ≤ N ∧ N ≤ 6 ∧ 0 ≤ Int32.toInt (q.1 0 32) ∧ Int32.toInt (q.1 0 32) ≤ 16 ∧ ∀ i : Nat, (i : Int) < Int32.toInt (q.1 0 32) → RS N (rkM q 14 (15 * i)) N P
theorem hm_fm {w q : dS} {N : Int} {P : Int → Prop} (hf : Fm w q) (h : HM w N P) : HM q N P := by
  obtain ⟨f1, f2, f3, f4, f5⟩ := hf
  obtain ⟨h1, h2, h3, h4, h5, h6⟩ := h
  unfold HM
  rw [f5]
  refine ⟨?_, h2, h3, h4, h5, fun i hi => ?_⟩
  · unfold rkM
    rw [f1]; exact h1
  · unfold rkM
    rw [f2]; exact h6 i hi
theorem hm_w {q : dS} {k : Nat} {v : Int32} {N : Int} {P : Int → Prop} (hk : 6 ≤ k ∧ ¬ k = 29) (h : HM q N P) : HM (dui q 2 k v) N P := by
  obtain ⟨h1, h2, h3, h4, h5, h6⟩ := h
  have e0 : (dui q 2 k v).1 0 = q.1 0 := dui_o (by decide)
  have e14 : (dui q 2 k v).1 14 = q.1 14 := dui_o (by decide)
  have e29 : (dui q 2 k v).1 2 29 = q.1 2 29 := dui_n (fun z => hk.2 z.symm)
  unfold HM
  rw [e0]
  refine ⟨RS_e h1 (by rw [e29]) (fun i hi => ?_), h2, h3, h4, h5, fun i hi => ?_⟩
  · show Int32.toInt ((dui q 2 k v).1 2 (0 + i)) = Int32.toInt (q.1 2 (0 + i))
    have hn := h1.1
    rw [dui_n (by omega)]
  · unfold rkM
    rw [e14]; exact h6 i hi
theorem hm_0 {q : dS} {k : Nat} {v : Int32} {N : Int} {P : Int → Prop} (hk : ¬ k = 32) (h : HM q N P) : HM (dui q 0 k v) N P := hm_fm (fm_0 hk fm_rf) h
theorem hm_r {q : dS} {j k : Nat} {v : Int32} {N : Int} {P : Int → Prop} (hj : ¬ j = 2 ∧ ¬ j = 14 ∧ ¬ j = 15 ∧ ¬ j = 5 ∧ ¬ j = 0) (h : HM q N P) : HM (dui q j k v) N P := hm_fm (fm_r hj fm_rf) h
theorem dm_settled {q : dS} {p1 : Int32} {N : Int} {P : Int → Prop} (h1 : RS (Int32.toInt (q.1 2 29)) (rkM q 2 0) N P) (h2 : 0 ≤ N) (h3 : N ≤ 6) : dAll (zX10_settled q p1) (fun o => o.1 = p1 ∧ HM o.2 N P ∧ o.2.1 0 6 = q.1 0 6) := by
  unfold zX10_settled zX10_good
  refine dA_L (fun q1 e1 => dA_B (R := fun o => o = (p1, dui q1 0 0 0)) (dA_L (fun q2 e2 => dA_some (by rw [e2]))) (fun r2 q4 z => dA_some ?_))
  have z1 : r2 = p1 := congrArg Prod.fst z
  have z2 : q4 = dui q1 0 0 0 := congrArg Prod.snd z
  have e2 : q4.1 2 = q.1 2 := by rw [z2, dui_o (by decide), e1, dui_o (by decide)]
  have e32 : q4.1 0 32 = 0 := by rw [z2, dui_n (by decide), e1, dui_e]
  have d0 : Int32.toInt 0 = 0 := by decide
  refine ⟨z1, ⟨?_, h2, h3, ?_, ?_, fun i hi => ?_⟩, ?_⟩
  · show RS (Int32.toInt (q4.1 2 29)) (rkM q4 2 0) N P
    unfold rkM
    rw [e2]; exact h1
  · show 0 ≤ Int32.toInt (q4.1 0 32); rw [e32]; omega
  · show Int32.toInt (q4.1 0 32) ≤ 16; rw [e32]; omega
  · replace hi : (i : Int) < Int32.toInt (q4.1 0 32) := hi
    rw [e32] at hi; omega
  · show q4.1 0 6 = q.1 0 6
    rw [z2, dui_n (by decide), e1, dui_n (by decide)]
theorem z0_add (p : Int32) : (0 + p : Int32) = p := Int32.zero_add p
theorem dm_exchanges (q : dS) (p1 p2 : Int32) {N : Int} {P : Int → Prop} (h : HM q N P) (a0 : 0 ≤ p1.toInt) (a1 : p1.toInt < N) (b0 : 0 ≤ p2.toInt) (b1 : p2.toInt < N) : dAll (zX10_exchanges q p1 p2) (fun o => HM o N P) := by
  obtain ⟨h1, h2, h3, h4, h5, h6⟩ := h
  have n1 := cl_eq a0
  have n2 := cl_eq b0
  have t1 : Int32.toInt (6 + p1) = 6 + p1.toInt := ti_add (by decide) rfl (by omega) (by omega)
  have t2 : Int32.toInt (6 + p2) = 6 + p2.toInt := ti_add (by decide) rfl (by omega) (by omega)
  have n3 := cl_eq (i := 6 + p1) (by omega)
  have n4 := cl_eq (i := 6 + p2) (by omega)
  unfold zX10_exchanges
  rw [z0_add, z0_add]
  obtain ⟨a, ea⟩ : ∃ a : Nat, Int32.toNatClampNeg p1 = a := ⟨_, rfl⟩
  obtain ⟨b, eb⟩ : ∃ b : Nat, Int32.toNatClampNeg p2 = b := ⟨_, rfl⟩
  obtain ⟨c, ec⟩ : ∃ c : Nat, Int32.toNatClampNeg (6 + p1) = c := ⟨_, rfl⟩
  obtain ⟨d, ed⟩ : ∃ d : Nat, Int32.toNatClampNeg (6 + p2) = d := ⟨_, rfl⟩
  rw [ea, eb, ec, ed]
  rw [ea] at n1
  rw [eb] at n2
  rw [ec] at n3
  rw [ed] at n4
  refine dA_G (fun _ => dA_L (fun v2 e2 => dA_G (fun _ => dA_L (fun v4 e4 => dA_G (fun _ => dA_L (fun v6 e6 => dA_G (fun _ => dA_L (fun q8 e8 => dA_G (fun _ => dA_L (fun v10 e10 => dA_G (fun _ => dA_L (fun q12 e12 => dA_G (fun _ => dA_L (fun q14 e14 => dA_G (fun _ => dA_L (fun q16 e16 => dA_some ?_))))))))))))))))
  have r0 : ∀ j : Nat, ¬ j = 2 → q16.1 j = q.1 j := fun j hj => by rw [e16, dui_o hj, e14, dui_o hj, e12, dui_o hj, e8, dui_o hj]
  have e29 : q16.1 2 29 = q.1 2 29 := by rw [e16, dui_n (by omega), e14, dui_n (by omega), e12, dui_n (by omega), e8, dui_n (by omega)]
  have hr : ∀ i : Nat, i < 6 → q16.1 2 i = if i = b then q.1 2 a else if i = a then q.1 2 b else q.1 2 i := by
    intro i hi
    rw [e16, dui_n (by omega), e14]
    by_cases c1 : i = b
    · rw [if_pos c1, c1, dui_e, e2]
    · rw [if_neg c1, dui_n c1, e12, dui_n (by omega), e8]
      by_cases c2 : i = a
      · rw [if_pos c2, c2, dui_e, e6]
      · rw [if_neg c2, dui_n c2]
  have hn := h1.1
  unfold HM
  rw [r0 0 (by decide), e29]
  refine ⟨?_, h2, h3, h4, h5, fun i hi => ?_⟩
  · have z : RS (Int32.toInt (q.1 2 29)) (sw a b (rkM q 2 0)) N P := RS_sw (by omega) (by omega) h1
    refine RS_e (f := sw a b (rkM q 2 0)) z rfl (fun i hi => ?_)
    show Int32.toInt (q16.1 2 (0 + i)) = (if i = b then Int32.toInt (q.1 2 (0 + a)) else if i = a then Int32.toInt (q.1 2 (0 + b)) else Int32.toInt (q.1 2 (0 + i)))
    rw [Nat.zero_add, Nat.zero_add, Nat.zero_add, hr i (by omega)]
    by_cases c1 : i = b
    · rw [if_pos c1, if_pos c1]
    · rw [if_neg c1, if_neg c1]
      by_cases c2 : i = a
      · rw [if_pos c2, if_pos c2]
      · rw [if_neg c2, if_neg c2]
  · unfold rkM
    rw [r0 14 (by decide)]; exact h6 i hi
theorem dm_turns (q : dS) (p1 : Int32) {N : Int} {P : Int → Prop} (h : HM q N P) (a0 : -100 ≤ p1.toInt) (a1 : p1.toInt ≤ N) : dAll (zX10_turns q p1) (fun o => HM o.2 N P) := by
  have hN : N ≤ 6 := h.2.2.1
  have d0 : Int32.toInt 0 = 0 := by decide
  have d1 : Int32.toInt 1 = 1 := by decide
  unfold zX10_turns
  refine dA_B (lm_zX10_rankBelow q q p1 fm_rf) (fun r1 q3 h3 => dA_V (lm_zX10_setsTurn q q3 _ _ _ _ h3) (fun q6 h6 => dA_B (lm_zX10_paysNow q q6 h6) (fun r7 q9 h9 => ?_)))
  have h9' := hm_fm h9 h
  unfold zX10_turns_30
  refine dA_fix (fun (a : dS × Int32 × Int32 × Int32) => HM a.1 N P ∧ a.2.1 = p1 ∧ 0 ≤ a.2.2.2.toInt ∧ a.2.2.2.toInt ≤ 6) ?_ dF _ ⟨h9', rfl, by show 0 ≤ Int32.toInt 0; omega, by show Int32.toInt 0 ≤ 6; omega⟩
  intro k30 hk30 a ha
  obtain ⟨qa, x1, x2, x3⟩ := a
  obtain ⟨b0, b1, b2, b3⟩ := ha
  replace b0 : HM qa N P := b0
  replace b1 : p1 = x1 := Eq.symm b1
  replace b2 : 0 ≤ x3.toInt := b2
  replace b3 : x3.toInt ≤ 6 := b3
  subst b1
  have t1 : Int32.toInt (p1 - 1) = p1.toInt - 1 := ti_sub rfl d1 (by omega) (by omega)
  have t2 : Int32.toInt (2 * x3) = 2 * x3.toInt := ti_mul (by decide) rfl (by omega) (by omega)
  have t3 : Int32.toInt ((p1 - 1) - x3) = p1.toInt - 1 - x3.toInt := ti_sub t1 rfl (by omega) (by omega)
  have t4 : Int32.toInt (x3 + 1) = x3.toInt + 1 := ti_add rfl d1 (by omega) (by omega)
  show dAll (zX10_turns_30b (fun q x1 x2 x3 => k30 (q, x1, x2, x3)) qa p1 x2 x3) _
  unfold zX10_turns_30b
  refine dA_le (fun c => ?_) (fun c => ?_)
  · unfold zX10_turns_57
    refine dA_fix (fun (a : dS × Int32 × Int32 × Int32) => HM a.1 N P ∧ a.2.1 = p1 ∧ 0 ≤ a.2.2.2.toInt) ?_ dF _ ⟨b0, rfl, by show 0 ≤ Int32.toInt 0; omega⟩
    intro k57 hk57 a ha
    obtain ⟨qb, y1, y2, y3⟩ := a
    obtain ⟨c0, c1, c2⟩ := ha
    replace c0 : HM qb N P := c0
    replace c1 : p1 = y1 := Eq.symm c1
    replace c2 : 0 ≤ y3.toInt := c2
    subst c1
    show dAll (zX10_turns_57b (fun q x1 x2 x3 => k57 (q, x1, x2, x3)) qb p1 y2 y3) _
    unfold zX10_turns_57b
    refine dA_le (fun _ => dA_V dA_tr (fun r1 _ => dA_L (fun q3 e3 => dA_some ?_))) (fun c3 => ?_)
    · rw [e3]; exact hm_w (by decide) c0
    · have u1 : Int32.toInt (6 + y3) = 6 + y3.toInt := ti_add (by decide) rfl (by omega) (by omega)
      have u2 : Int32.toInt (y3 + 1) = y3.toInt + 1 := ti_add rfl d1 (by omega) (by omega)
      have n6 := cl_eq (i := 6 + y3) (by omega)
      refine dA_G (fun _ => dA_L (fun v5 _ => dA_G (fun _ => dA_L (fun q7 e7 => hk57 (q7, p1, y2, y3 + 1) ⟨?_, rfl, by show 0 ≤ Int32.toInt (y3 + 1); omega⟩))))
      show HM q7 N P
      rw [e7]; exact hm_w (by omega) c0
  · refine dA_V (dm_exchanges qa x3 ((p1 - 1) - x3) b0 b2 (by omega) (by omega) (by omega)) (fun q3 h3 => hk30 (q3, p1, x2, x3 + 1) ⟨h3, rfl, by show 0 ≤ Int32.toInt (x3 + 1); omega, by show Int32.toInt (x3 + 1) ≤ 6; omega⟩)
theorem dm_yearPasses (q : dS) {N : Int} {P : Int → Prop} (h : HM q N P) : dAll (zX10_yearPasses q) (fun o => HM o.2 N P) := by
  have hN : N ≤ 6 := h.2.2.1
  have d0 : Int32.toInt 0 = 0 := by decide
  unfold zX10_yearPasses zX10_yearPasses_4
  refine dA_fix (fun (a : dS × Int32 × Int32) => HM a.1 N P) ?_ dF _ h
  intro k4 hk4 a ha
  obtain ⟨qa, x1, x2⟩ := a
  replace ha : HM qa N P := ha
  show dAll (zX10_yearPasses_4b (fun q x1 x2 => k4 (q, x1, x2)) qa x1 x2) _
  unfold zX10_yearPasses_4b
  refine dA_B (lm_zX10_size qa qa fm_rf) (fun r1 q3 h3 => dA_if (fun _ => ?_) (fun _ => ?_))
  · have hb := hm_fm h3 ha
    unfold zX10_yearPasses_31
    refine dA_fix (fun (a : dS × Int32 × Int32) => HM a.1 N P ∧ 0 ≤ a.2.2.toInt ∧ a.2.2.toInt ≤ 6) ?_ dF _ ⟨hb, by show 0 ≤ Int32.toInt 0; omega, by show Int32.toInt 0 ≤ 6; omega⟩
    intro k31 hk31 a hc
    obtain ⟨qb, y1, y2⟩ := a
    obtain ⟨c0, c1, c2⟩ := hc
    replace c0 : HM qb N P := c0
    replace c1 : 0 ≤ y2.toInt := c1
    replace c2 : y2.toInt ≤ 6 := c2
    show dAll (zX10_yearPasses_31b (fun q x1 x2 => k31 (q, x1, x2)) qb y1 y2) _
    unfold zX10_yearPasses_31b zX10_size
    refine dA_B (R := fun o => o = (qb.1 2 29, qb)) (dA_some rfl) (fun r1 q3 z => ?_)
    have z1 : r1 = qb.1 2 29 := congrArg Prod.fst z
    have z2 : q3 = qb := congrArg Prod.snd z
    subst z1 z2
    have hn : Int32.toInt (q3.1 2 29) = N := c0.1.1
    refine dA_le (fun _ => dA_L (fun q4 e4 => dA_some (by rw [e4]; exact hm_w (by decide) c0))) (fun c3 => ?_)
    have u1 : Int32.toInt (6 + y2) = 6 + y2.toInt := ti_add (by decide) rfl (by omega) (by omega)
    have u2 : Int32.toInt (y2 + 1) = y2.toInt + 1 := ti_add rfl (by decide) (by omega) (by omega)
    have n6 := cl_eq (i := 6 + y2) (by omega)
    have h79 : ∀ v : Int32, dAll (zX10_yearPasses_79 (fun q x1 x2 => k31 (q, x1, x2)) q3 y1 y2 v (6 + y2)) (fun o => HM o.2 N P) := by
      intro v
      unfold zX10_yearPasses_79
      refine dA_G (fun _ => dA_L (fun q2 e2 => dA_G (fun _ => dA_L (fun v4 _ => ?_))))
      have h2 : HM q2 N P := by rw [e2]; exact hm_w (by omega) c0
      have h95 : ∀ w x : Int32, dAll (zX10_yearPasses_95 (fun q x1 x2 => k31 (q, x1, x2)) q2 y2 w x) (fun o => HM o.2 N P) := by
        intro w x
        unfold zX10_yearPasses_95
        exact hk31 (q2, x + w, y2 + 1) ⟨h2, by show 0 ≤ Int32.toInt (y2 + 1); omega, by show Int32.toInt (y2 + 1) ≤ 6; omega⟩
      exact dA_if (fun _ => h95 _ _) (fun _ => h95 _ _)
    refine dA_G (fun _ => dA_L (fun v6 _ => dA_if (fun _ => dA_G (fun _ => dA_L (fun v8 _ => h79 _))) (fun _ => dA_G (fun _ => dA_L (fun v10 _ => h79 _)))))
  · refine dA_B (lm_zX10_tipsAt qa q3 x2 h3) (fun r4 q6 h6 => dA_G (fun _ => dA_L (fun q8 e8 => hk4 (q8, x1, x2 + 1) ?_)))
    show HM q8 N P
    rw [e8]; exact hm_r (by decide) (hm_fm h6 ha)
theorem dm_keeps (q : dS) (p1 : Int32) {N : Int} {P : Int → Prop} (h : HM q N P) : dAll (zX10_keeps q p1) (fun o => HM o N P ∧ o.1 2 = q.1 2 ∧ o.1 5 = q.1 5 ∧ o.1 15 = q.1 15) := by
  have d0 : Int32.toInt 0 = 0 := by decide
  have d1 : Int32.toInt 1 = 1 := by decide
  have d14 : Int32.toInt 14 = 14 := by decide
  have d15 : Int32.toInt 15 = 15 := by decide
  have d16 : Int32.toInt 16 = 16 := by decide
  obtain ⟨h1, h2, h3, h4, h5, h6⟩ := h
  have h52 : ∀ qa : dS, qa.1 2 = q.1 2 → qa.1 5 = q.1 5 → qa.1 15 = q.1 15 → 0 ≤ Int32.toInt (qa.1 0 32) → Int32.toInt (qa.1 0 32) ≤ 15 → (∀ i : Nat, (i : Int) < Int32.toInt (qa.1 0 32) → RS N (rkM qa 14 (15 * i)) N P) → dAll (zX10_keeps_52 qa p1 15) (fun o => HM o N P ∧ o.1 2 = q.1 2 ∧ o.1 5 = q.1 5 ∧ o.1 15 = q.1 15) := by
    intro qa a1 a5 a15 a3 a4 a6
    have nu := cl_eq a3
    obtain ⟨u, eu⟩ : ∃ u : Nat, Int32.toNatClampNeg (qa.1 0 32) = u := ⟨_, rfl⟩
    rw [eu] at nu
    unfold zX10_keeps_52 zX10_keeps_54
    refine dA_fix (fun (a : dS × Int32 × Int32 × Int32) => a.1.1 2 = q.1 2 ∧ a.1.1 5 = q.1 5 ∧ a.1.1 15 = q.1 15 ∧ a.1.1 0 = qa.1 0 ∧ a.2.2.1 = 15 ∧ 0 ≤ a.2.2.2.toInt ∧ a.2.2.2.toInt ≤ 14 ∧ (∀ m : Nat, m < 15 * u → a.1.1 14 m = qa.1 14 m) ∧ (∀ k : Nat, (k : Int) < a.2.2.2.toInt → a.1.1 14 (15 * u + k) = q.1 2 k)) ?_ dF _ ⟨a1, a5, a15, rfl, rfl, by show 0 ≤ Int32.toInt 0; omega, by show Int32.toInt 0 ≤ 14; omega, fun _ _ => rfl, fun k hk => absurd hk (by show ¬ (k : Int) < Int32.toInt 0; omega)⟩
    intro k54 hk54 a ha
    obtain ⟨qb, x1, x2, x3⟩ := a
    obtain ⟨b1, b5, b15, b0, b2, b3, b4, b6, b7⟩ := ha
    replace b1 : qb.1 2 = q.1 2 := b1
    replace b5 : qb.1 5 = q.1 5 := b5
    replace b15 : qb.1 15 = q.1 15 := b15
    replace b0 : qb.1 0 = qa.1 0 := b0
    replace b2 : 15 = x2 := Eq.symm b2
    replace b3 : 0 ≤ x3.toInt := b3
    replace b4 : x3.toInt ≤ 14 := b4
    replace b6 : ∀ m : Nat, m < 15 * u → qb.1 14 m = qa.1 14 m := b6
    replace b7 : ∀ k : Nat, (k : Int) < x3.toInt → qb.1 14 (15 * u + k) = q.1 2 k := b7
    subst b2
    have w32 : Int32.toInt (qb.1 0 32) = (u : Int) := by rw [b0]; exact nu.symm
    have tm : Int32.toInt (15 * (qb.1 0 32)) = 15 * (u : Int) := ti_mul d15 w32 (by omega) (by omega)
    show dAll (zX10_keeps_54b (fun q x1 x2 x3 => k54 (q, x1, x2, x3)) qb x1 15 x3) _
    unfold zX10_keeps_54b
    refine dA_le (fun c => ?_) (fun c => ?_)
    · have tk : Int32.toInt (15 * (qb.1 0 32) + 14) = 15 * (u : Int) + 14 := ti_add tm d14 (by omega) (by omega)
      have nk := cl_eq (i := 15 * (qb.1 0 32) + 14) (by omega)
      refine dA_G (fun _ => dA_L (fun q2 e2 => dA_L (fun q3 e3 => dA_some ?_)))
      have r2 : q3.1 2 = q.1 2 := by rw [e3, dui_o (by decide), e2, dui_o (by decide)]; exact b1
      have r14 : q3.1 14 = q2.1 14 := by rw [e3]; exact dui_o (by decide)
      have s32 : q2.1 0 32 = qb.1 0 32 := by rw [e2, dui_o (by decide)]
      have r32 : Int32.toInt (q3.1 0 32) = (u : Int) + 1 := by rw [e3, dui_e, s32]; exact ti_add w32 d1 (by omega) (by omega)
      refine ⟨⟨?_, h2, h3, by omega, by omega, fun i hi => ?_⟩, r2, by rw [e3, dui_o (by decide), e2, dui_o (by decide)]; exact b5, by rw [e3, dui_o (by decide), e2, dui_o (by decide)]; exact b15⟩
      · unfold rkM
        rw [r2]; exact h1
      · by_cases ci : i = u
        · refine RS_e (n := N) (f := rkM q 2 0) ⟨rfl, by have z := h1.2; rw [h1.1] at z; exact z⟩ rfl (fun j hj => ?_)
          show Int32.toInt (q3.1 14 (15 * i + j)) = Int32.toInt (q.1 2 (0 + j))
          rw [r14, e2, dui_n (by omega), ci, b7 j (by omega), Nat.zero_add]
        · refine RS_e (a6 i (by omega)) rfl (fun j hj => ?_)
          show Int32.toInt (q3.1 14 (15 * i + j)) = Int32.toInt (qa.1 14 (15 * i + j))
          rw [r14, e2, dui_n (by omega), b6 _ (by omega)]
    · have n3 := cl_eq b3
      have tk : Int32.toInt (15 * (qb.1 0 32) + x3) = 15 * (u : Int) + x3.toInt := ti_add tm rfl (by omega) (by omega)
      have nk := cl_eq (i := 15 * (qb.1 0 32) + x3) (by omega)
      have t4 : Int32.toInt (x3 + 1) = x3.toInt + 1 := ti_add rfl d1 (by omega) (by omega)
      refine dA_G (fun _ => dA_L (fun v5 e5 => dA_G (fun _ => dA_L (fun q7 e7 => hk54 (q7, x1, 15, x3 + 1) ⟨?_, ?_, ?_, ?_, rfl, by show 0 ≤ Int32.toInt (x3 + 1); omega, by show Int32.toInt (x3 + 1) ≤ 14; omega, fun m hm => ?_, fun k hk => ?_⟩))))
      · show q7.1 2 = _; rw [e7, dui_o (by decide)]; exact b1
      · show q7.1 5 = _; rw [e7, dui_o (by decide)]; exact b5
      · show q7.1 15 = _; rw [e7, dui_o (by decide)]; exact b15
      · show q7.1 0 = _; rw [e7, dui_o (by decide)]; exact b0
      · show q7.1 14 m = _; rw [e7, dui_n (by omega)]; exact b6 m hm
      · replace hk : (k : Int) < Int32.toInt (x3 + 1) := hk
        show q7.1 14 (15 * u + k) = _
        rw [e7]
        by_cases ck : (k : Int) < x3.toInt
        · rw [dui_n (by omega)]; exact b7 k ck
        · rw [show 15 * u + k = Int32.toNatClampNeg (15 * (qb.1 0 32) + x3) by omega, dui_e, e5, b1, show k = Int32.toNatClampNeg x3 by omega]
  unfold zX10_keeps
  refine dA_eq (fun _ c => ?_) (fun _ c => h52 q rfl rfl rfl h4 (by omega) h6)
  unfold zX10_keeps_14
  refine dA_fix (fun (a : dS × Int32 × Int32 × Int32) => a.1.1 2 = q.1 2 ∧ a.1.1 5 = q.1 5 ∧ a.1.1 15 = q.1 15 ∧ a.1.1 0 = q.1 0 ∧ a.2.1 = p1 ∧ a.2.2.1 = 15 ∧ 0 ≤ a.2.2.2.toInt ∧ a.2.2.2.toInt ≤ 225 ∧ (∀ m : Nat, (m : Int) < a.2.2.2.toInt → a.1.1 14 m = q.1 14 (m + 15)) ∧ (∀ m : Nat, a.2.2.2.toInt ≤ (m : Int) → a.1.1 14 m = q.1 14 m)) ?_ dF _ ⟨rfl, rfl, rfl, rfl, rfl, rfl, by show 0 ≤ Int32.toInt 0; omega, by show Int32.toInt 0 ≤ 225; omega, fun m hm => absurd hm (by show ¬ (m : Int) < Int32.toInt 0; omega), fun _ _ => rfl⟩
  intro k14 hk14 a ha
  obtain ⟨qb, x1, x2, x3⟩ := a
  obtain ⟨b1, b5, b15, b0, b8, b2, b3, b4, b6, b7⟩ := ha
  replace b1 : qb.1 2 = q.1 2 := b1
  replace b5 : qb.1 5 = q.1 5 := b5
  replace b15 : qb.1 15 = q.1 15 := b15
  replace b0 : qb.1 0 = q.1 0 := b0
  replace b8 : p1 = x1 := Eq.symm b8
  replace b2 : 15 = x2 := Eq.symm b2
  replace b3 : 0 ≤ x3.toInt := b3
  replace b4 : x3.toInt ≤ 225 := b4
  replace b6 : ∀ m : Nat, (m : Int) < x3.toInt → qb.1 14 m = q.1 14 (m + 15) := b6
  replace b7 : ∀ m : Nat, x3.toInt ≤ (m : Int) → qb.1 14 m = q.1 14 m := b7
  subst b8 b2
  have tm : Int32.toInt (15 * 15) = 225 := by decide
  show dAll (zX10_keeps_14b (fun q x1 x2 x3 => k14 (q, x1, x2, x3)) qb p1 15 x3) _
  unfold zX10_keeps_14b
  refine dA_le (fun c2 => ?_) (fun c2 => ?_)
  · have w32 : Int32.toInt (qb.1 0 32) = 16 := by rw [b0]; omega
    have tk : Int32.toInt (qb.1 0 32 - 1) = 15 := ti_sub w32 d1 (by omega) (by omega)
    refine dA_L (fun q1 e1 => h52 q1 (by rw [e1, dui_o (by decide)]; exact b1) (by rw [e1, dui_o (by decide)]; exact b5) (by rw [e1, dui_o (by decide)]; exact b15) (by rw [e1, dui_e]; omega) (by rw [e1, dui_e]; omega) (fun i hi => ?_))
    rw [e1, dui_e, tk] at hi
    refine RS_e (h6 (i + 1) (by omega)) rfl (fun j hj => ?_)
    show Int32.toInt (q1.1 14 (15 * i + j)) = Int32.toInt (q.1 14 (15 * (i + 1) + j))
    rw [e1, dui_o (by decide), b6 _ (by omega), show 15 * i + j + 15 = 15 * (i + 1) + j by omega]
  · have n3 := cl_eq b3
    have tk : Int32.toInt (x3 + 15) = x3.toInt + 15 := ti_add rfl d15 (by omega) (by omega)
    have nk := cl_eq (i := x3 + 15) (by omega)
    have t4 : Int32.toInt (x3 + 1) = x3.toInt + 1 := ti_add rfl d1 (by omega) (by omega)
    refine dA_G (fun _ => dA_L (fun v3 e3 => dA_G (fun _ => dA_L (fun q5 e5 => hk14 (q5, p1, 15, x3 + 1) ⟨?_, ?_, ?_, ?_, rfl, rfl, by show 0 ≤ Int32.toInt (x3 + 1); omega, by show Int32.toInt (x3 + 1) ≤ 225; omega, fun m hm => ?_, fun m hm => ?_⟩))))
    · show q5.1 2 = _; rw [e5, dui_o (by decide)]; exact b1
    · show q5.1 5 = _; rw [e5, dui_o (by decide)]; exact b5
    · show q5.1 15 = _; rw [e5, dui_o (by decide)]; exact b15
    · show q5.1 0 = _; rw [e5, dui_o (by decide)]; exact b0
    · replace hm : (m : Int) < Int32.toInt (x3 + 1) := hm
      show q5.1 14 m = _
      rw [e5]
      by_cases cm : (m : Int) < x3.toInt
      · rw [dui_n (by omega)]; exact b6 m cm
      · rw [show m = Int32.toNatClampNeg x3 by omega, dui_e, e3, b7 _ (by omega), show Int32.toNatClampNeg (x3 + 15) = Int32.toNatClampNeg x3 + 15 by omega]
    · replace hm : Int32.toInt (x3 + 1) ≤ (m : Int) := hm
      show q5.1 14 m = _
      rw [e5, dui_n (by omega)]; exact b7 m (by omega)
