theorem sg_id (q : dK) (p1 : Int32) : dAll (zX4_isSign_s24 q p1) (fun o => o.2 = q) := by
  unfold zX4_isSign_s24 zX4_isSign_s24_36 zX4_isSign_s24_37
  exact dA_if (fun _ => dA_if (fun _ => dA_G (fun _ => dA_some rfl)) (fun _ => dA_G (fun _ => dA_G (fun _ => dA_L (fun _ _ => dA_if (fun _ => dA_G (fun _ => dA_some rfl)) (fun _ => dA_G (fun _ => dA_some rfl))))))) (fun _ => dA_G (fun _ => dA_some rfl))

theorem sm_id0 (q : dK) (p2 p3 : Int32) : dAll (zX4_isSame_s24_t0 q p2 p3) (fun o => o.2 = q) := by
  unfold zX4_isSame_s24_t0
  refine dA_if (fun _ => ?_) (fun _ => dA_some rfl)
  unfold zX4_isSame_s24_t0_20
  refine dA_fix (fun (a : dK × Int32 × Int32 × Int32) => a.1 = q) ?_ dF _ rfl
  intro k hk a ha
  obtain ⟨qa, x2, x3, x4⟩ := a
  replace ha : qa = q := ha
  subst ha
  show dAll (zX4_isSame_s24_t0_20b (fun q x2 x3 x4 => k (q, x2, x3, x4)) qa x2 x3 x4) _
  unfold zX4_isSame_s24_t0_20b
  exact dA_if (fun _ => dA_some rfl) (fun _ => dA_G (fun _ => dA_L (fun v2 _ => dA_G (fun _ => dA_G (fun _ => dA_L (fun v5 _ => dA_if (fun _ => hk (qa, x2, x3, x4 + 1) rfl) (fun _ => dA_some rfl)))))))

theorem sm_id1 (q : dK) (p2 p3 : Int32) : dAll (zX4_isSame_s24_t1 q p2 p3) (fun o => o.2 = q) := by
  unfold zX4_isSame_s24_t1
  refine dA_if (fun _ => ?_) (fun _ => dA_some rfl)
  unfold zX4_isSame_s24_t1_20
  refine dA_fix (fun (a : dK × Int32 × Int32 × Int32) => a.1 = q) ?_ dF _ rfl
  intro k hk a ha
  obtain ⟨qa, x2, x3, x4⟩ := a
  replace ha : qa = q := ha
  subst ha
  show dAll (zX4_isSame_s24_t1_20b (fun q x2 x3 x4 => k (q, x2, x3, x4)) qa x2 x3 x4) _
  unfold zX4_isSame_s24_t1_20b
  exact dA_if (fun _ => dA_some rfl) (fun _ => dA_G (fun _ => dA_L (fun v2 _ => dA_G (fun _ => dA_G (fun _ => dA_L (fun v5 _ => dA_if (fun _ => hk (qa, x2, x3, x4 + 1) rfl) (fun _ => dA_some rfl)))))))

theorem sm_id2 (q : dK) (p2 p3 : Int32) : dAll (zX4_isSame_s24_t2 q p2 p3) (fun o => o.2 = q) := by
  unfold zX4_isSame_s24_t2
  refine dA_if (fun _ => ?_) (fun _ => dA_some rfl)
  unfold zX4_isSame_s24_t2_20
  refine dA_fix (fun (a : dK × Int32 × Int32 × Int32) => a.1 = q) ?_ dF _ rfl
  intro k hk a ha
  obtain ⟨qa, x2, x3, x4⟩ := a
  replace ha : qa = q := ha
  subst ha
  show dAll (zX4_isSame_s24_t2_20b (fun q x2 x3 x4 => k (q, x2, x3, x4)) qa x2 x3 x4) _
  unfold zX4_isSame_s24_t2_20b
  exact dA_if (fun _ => dA_some rfl) (fun _ => dA_G (fun _ => dA_L (fun v2 _ => dA_G (fun _ => dA_G (fun _ => dA_L (fun v5 _ => dA_if (fun _ => hk (qa, x2, x3, x4 + 1) rfl) (fun _ => dA_some rfl)))))))

theorem sm_id3 (q : dK) (p2 p3 : Int32) : dAll (zX4_isSame_s24_t3 q p2 p3) (fun o => o.2 = q) := by
  unfold zX4_isSame_s24_t3
  refine dA_if (fun _ => ?_) (fun _ => dA_some rfl)
  unfold zX4_isSame_s24_t3_20
  refine dA_fix (fun (a : dK × Int32 × Int32 × Int32) => a.1 = q) ?_ dF _ rfl
  intro k hk a ha
  obtain ⟨qa, x2, x3, x4⟩ := a
  replace ha : qa = q := ha
  subst ha
  show dAll (zX4_isSame_s24_t3_20b (fun q x2 x3 x4 => k (q, x2, x3, x4)) qa x2 x3 x4) _
  unfold zX4_isSame_s24_t3_20b
  exact dA_if (fun _ => dA_some rfl) (fun _ => dA_G (fun _ => dA_L (fun v2 _ => dA_G (fun _ => dA_G (fun _ => dA_L (fun v5 _ => dA_if (fun _ => hk (qa, x2, x3, x4 + 1) rfl) (fun _ => dA_some rfl)))))))

theorem sm_id6 (q : dK) (p2 p3 : Int32) : dAll (zX4_isSame_s24_t6 q p2 p3) (fun o => o.2 = q) := by
  unfold zX4_isSame_s24_t6
  refine dA_if (fun _ => ?_) (fun _ => dA_some rfl)
  unfold zX4_isSame_s24_t6_20
  refine dA_fix (fun (a : dK × Int32 × Int32 × Int32) => a.1 = q) ?_ dF _ rfl
  intro k hk a ha
  obtain ⟨qa, x2, x3, x4⟩ := a
  replace ha : qa = q := ha
  subst ha
  show dAll (zX4_isSame_s24_t6_20b (fun q x2 x3 x4 => k (q, x2, x3, x4)) qa x2 x3 x4) _
  unfold zX4_isSame_s24_t6_20b
  exact dA_if (fun _ => dA_some rfl) (fun _ => dA_G (fun _ => dA_L (fun v2 _ => dA_G (fun _ => dA_G (fun _ => dA_L (fun v5 _ => dA_if (fun _ => hk (qa, x2, x3, x4 + 1) rfl) (fun _ => dA_some rfl)))))))

theorem sm_id7 (q : dK) (p2 p3 : Int32) : dAll (zX4_isSame_s24_t7 q p2 p3) (fun o => o.2 = q) := by
  unfold zX4_isSame_s24_t7
  refine dA_if (fun _ => ?_) (fun _ => dA_some rfl)
  unfold zX4_isSame_s24_t7_20
  refine dA_fix (fun (a : dK × Int32 × Int32 × Int32) => a.1 = q) ?_ dF _ rfl
  intro k hk a ha
  obtain ⟨qa, x2, x3, x4⟩ := a
  replace ha : qa = q := ha
  subst ha
  show dAll (zX4_isSame_s24_t7_20b (fun q x2 x3 x4 => k (q, x2, x3, x4)) qa x2 x3 x4) _
  unfold zX4_isSame_s24_t7_20b
  exact dA_if (fun _ => dA_some rfl) (fun _ => dA_G (fun _ => dA_L (fun v2 _ => dA_G (fun _ => dA_G (fun _ => dA_L (fun v5 _ => dA_if (fun _ => hk (qa, x2, x3, x4 + 1) rfl) (fun _ => dA_some rfl)))))))

theorem sm_id8 (q : dK) (p2 p3 : Int32) : dAll (zX4_isSame_s24_t8 q p2 p3) (fun o => o.2 = q) := by
  unfold zX4_isSame_s24_t8
  refine dA_if (fun _ => ?_) (fun _ => dA_some rfl)
  unfold zX4_isSame_s24_t8_20
  refine dA_fix (fun (a : dK × Int32 × Int32 × Int32) => a.1 = q) ?_ dF _ rfl
  intro k hk a ha
  obtain ⟨qa, x2, x3, x4⟩ := a
  replace ha : qa = q := ha
  subst ha
  show dAll (zX4_isSame_s24_t8_20b (fun q x2 x3 x4 => k (q, x2, x3, x4)) qa x2 x3 x4) _
  unfold zX4_isSame_s24_t8_20b
  exact dA_if (fun _ => dA_some rfl) (fun _ => dA_G (fun _ => dA_L (fun v2 _ => dA_G (fun _ => dA_G (fun _ => dA_L (fun v5 _ => dA_if (fun _ => hk (qa, x2, x3, x4 + 1) rfl) (fun _ => dA_some rfl)))))))

theorem sm_id10 (q : dK) (p2 p3 : Int32) : dAll (zX4_isSame_s24_t10 q p2 p3) (fun o => o.2 = q) := by
  unfold zX4_isSame_s24_t10
  refine dA_if (fun _ => ?_) (fun _ => dA_some rfl)
  unfold zX4_isSame_s24_t10_20
  refine dA_fix (fun (a : dK × Int32 × Int32 × Int32) => a.1 = q) ?_ dF _ rfl
  intro k hk a ha
  obtain ⟨qa, x2, x3, x4⟩ := a
  replace ha : qa = q := ha
  subst ha
  show dAll (zX4_isSame_s24_t10_20b (fun q x2 x3 x4 => k (q, x2, x3, x4)) qa x2 x3 x4) _
  unfold zX4_isSame_s24_t10_20b
  exact dA_if (fun _ => dA_some rfl) (fun _ => dA_G (fun _ => dA_L (fun v2 _ => dA_G (fun _ => dA_G (fun _ => dA_L (fun v5 _ => dA_if (fun _ => hk (qa, x2, x3, x4 + 1) rfl) (fun _ => dA_some rfl)))))))

theorem sm_id11 (q : dK) (p2 p3 : Int32) : dAll (zX4_isSame_s24_t11 q p2 p3) (fun o => o.2 = q) := by
  unfold zX4_isSame_s24_t11
  refine dA_if (fun _ => ?_) (fun _ => dA_some rfl)
  unfold zX4_isSame_s24_t11_20
  refine dA_fix (fun (a : dK × Int32 × Int32 × Int32) => a.1 = q) ?_ dF _ rfl
  intro k hk a ha
  obtain ⟨qa, x2, x3, x4⟩ := a
  replace ha : qa = q := ha
  subst ha
  show dAll (zX4_isSame_s24_t11_20b (fun q x2 x3 x4 => k (q, x2, x3, x4)) qa x2 x3 x4) _
  unfold zX4_isSame_s24_t11_20b
  exact dA_if (fun _ => dA_some rfl) (fun _ => dA_G (fun _ => dA_L (fun v2 _ => dA_G (fun _ => dA_G (fun _ => dA_L (fun v5 _ => dA_if (fun _ => hk (qa, x2, x3, x4 + 1) rfl) (fun _ => dA_some rfl)))))))

theorem wd_id6 (q : dK) : dAll (zX4_isWord_s24_t6 q) (fun o => o.2 = q) := by
  unfold zX4_isWord_s24_t6 zX4_isWord_s24_t6_25 zX4_isWord_s24_t6_26
  refine dA_if (fun _ => dA_B (sm_id6 q _ _) (fun r1 q3 z => ?_)) (fun _ => dA_G (fun _ => dA_some rfl))
  replace z : q3 = q := z
  subst z
  exact dA_if (fun _ => dA_G (fun _ => dA_some rfl)) (fun _ => dA_G (fun _ => dA_some rfl))

theorem wd_id7 (q : dK) : dAll (zX4_isWord_s24_t7 q) (fun o => o.2 = q) := by
  unfold zX4_isWord_s24_t7 zX4_isWord_s24_t7_25 zX4_isWord_s24_t7_26
  refine dA_if (fun _ => dA_B (sm_id7 q _ _) (fun r1 q3 z => ?_)) (fun _ => dA_G (fun _ => dA_some rfl))
  replace z : q3 = q := z
  subst z
  exact dA_if (fun _ => dA_G (fun _ => dA_some rfl)) (fun _ => dA_G (fun _ => dA_some rfl))

theorem wd_id8 (q : dK) : dAll (zX4_isWord_s24_t8 q) (fun o => o.2 = q) := by
  unfold zX4_isWord_s24_t8 zX4_isWord_s24_t8_25 zX4_isWord_s24_t8_26
  refine dA_if (fun _ => dA_B (sm_id8 q _ _) (fun r1 q3 z => ?_)) (fun _ => dA_G (fun _ => dA_some rfl))
  replace z : q3 = q := z
  subst z
  exact dA_if (fun _ => dA_G (fun _ => dA_some rfl)) (fun _ => dA_G (fun _ => dA_some rfl))

theorem wd_id10 (q : dK) : dAll (zX4_isWord_s24_t10 q) (fun o => o.2 = q) := by
  unfold zX4_isWord_s24_t10 zX4_isWord_s24_t10_25 zX4_isWord_s24_t10_26
  refine dA_if (fun _ => dA_B (sm_id10 q _ _) (fun r1 q3 z => ?_)) (fun _ => dA_G (fun _ => dA_some rfl))
  replace z : q3 = q := z
  subst z
  exact dA_if (fun _ => dA_G (fun _ => dA_some rfl)) (fun _ => dA_G (fun _ => dA_some rfl))

theorem wd_id11 (q : dK) : dAll (zX4_isWord_s24_t11 q) (fun o => o.2 = q) := by
  unfold zX4_isWord_s24_t11 zX4_isWord_s24_t11_25 zX4_isWord_s24_t11_26
  refine dA_if (fun _ => dA_B (sm_id11 q _ _) (fun r1 q3 z => ?_)) (fun _ => dA_G (fun _ => dA_some rfl))
  replace z : q3 = q := z
  subst z
  exact dA_if (fun _ => dA_G (fun _ => dA_some rfl)) (fun _ => dA_G (fun _ => dA_some rfl))

theorem win_id0 (q : dK) : dAll (zX4_wordIn_s24_t0 q) (fun o => o.2 = q) := by
  unfold zX4_wordIn_s24_t0 zX4_wordIn_s24_t0_7
  refine dA_fix (fun (a : dK × Int32 × Int32 × Int32) => a.1 = q) ?_ dF _ rfl
  intro k hk a ha
  obtain ⟨qa, x2, x3, x4⟩ := a
  replace ha : qa = q := ha
  subst ha
  show dAll (zX4_wordIn_s24_t0_7b (fun q x2 x3 x4 => k (q, x2, x3, x4)) qa x2 x3 x4) _
  unfold zX4_wordIn_s24_t0_7b zX4_wordIn_s24_t0_62 zX4_wordIn_s24_t0_56
  refine dA_if (fun _ => dA_some rfl) (fun _ => dA_if (fun _ => dA_G (fun _ => dA_L (fun v2 _ => dA_if (fun _ => dA_B (sm_id0 qa _ _) (fun r3 q5 z => ?_)) (fun _ => hk (qa, x2, x3, x4 + 1) rfl)))) (fun _ => dA_some rfl))
  replace z : q5 = qa := z
  subst z
  exact dA_if (fun _ => hk (q5, x2 + 1, x4 + 1, x4 + 1) rfl) (fun _ => dA_some rfl)

theorem win_id1 (q : dK) : dAll (zX4_wordIn_s24_t1 q) (fun o => o.2 = q) := by
  unfold zX4_wordIn_s24_t1 zX4_wordIn_s24_t1_7
  refine dA_fix (fun (a : dK × Int32 × Int32 × Int32) => a.1 = q) ?_ dF _ rfl
  intro k hk a ha
  obtain ⟨qa, x2, x3, x4⟩ := a
  replace ha : qa = q := ha
  subst ha
  show dAll (zX4_wordIn_s24_t1_7b (fun q x2 x3 x4 => k (q, x2, x3, x4)) qa x2 x3 x4) _
  unfold zX4_wordIn_s24_t1_7b zX4_wordIn_s24_t1_62 zX4_wordIn_s24_t1_56
  refine dA_if (fun _ => dA_some rfl) (fun _ => dA_if (fun _ => dA_G (fun _ => dA_L (fun v2 _ => dA_if (fun _ => dA_B (sm_id1 qa _ _) (fun r3 q5 z => ?_)) (fun _ => hk (qa, x2, x3, x4 + 1) rfl)))) (fun _ => dA_some rfl))
  replace z : q5 = qa := z
  subst z
  exact dA_if (fun _ => hk (q5, x2 + 1, x4 + 1, x4 + 1) rfl) (fun _ => dA_some rfl)

theorem win_id2 (q : dK) : dAll (zX4_wordIn_s24_t2 q) (fun o => o.2 = q) := by
  unfold zX4_wordIn_s24_t2 zX4_wordIn_s24_t2_7
  refine dA_fix (fun (a : dK × Int32 × Int32 × Int32) => a.1 = q) ?_ dF _ rfl
  intro k hk a ha
  obtain ⟨qa, x2, x3, x4⟩ := a
  replace ha : qa = q := ha
  subst ha
  show dAll (zX4_wordIn_s24_t2_7b (fun q x2 x3 x4 => k (q, x2, x3, x4)) qa x2 x3 x4) _
  unfold zX4_wordIn_s24_t2_7b zX4_wordIn_s24_t2_62 zX4_wordIn_s24_t2_56
  refine dA_if (fun _ => dA_some rfl) (fun _ => dA_if (fun _ => dA_G (fun _ => dA_L (fun v2 _ => dA_if (fun _ => dA_B (sm_id2 qa _ _) (fun r3 q5 z => ?_)) (fun _ => hk (qa, x2, x3, x4 + 1) rfl)))) (fun _ => dA_some rfl))
  replace z : q5 = qa := z
  subst z
  exact dA_if (fun _ => hk (q5, x2 + 1, x4 + 1, x4 + 1) rfl) (fun _ => dA_some rfl)

theorem win_id3 (q : dK) : dAll (zX4_wordIn_s24_t3 q) (fun o => o.2 = q) := by
  unfold zX4_wordIn_s24_t3 zX4_wordIn_s24_t3_7
  refine dA_fix (fun (a : dK × Int32 × Int32 × Int32) => a.1 = q) ?_ dF _ rfl
  intro k hk a ha
  obtain ⟨qa, x2, x3, x4⟩ := a
  replace ha : qa = q := ha
  subst ha
  show dAll (zX4_wordIn_s24_t3_7b (fun q x2 x3 x4 => k (q, x2, x3, x4)) qa x2 x3 x4) _
  unfold zX4_wordIn_s24_t3_7b zX4_wordIn_s24_t3_62 zX4_wordIn_s24_t3_56
  refine dA_if (fun _ => dA_some rfl) (fun _ => dA_if (fun _ => dA_G (fun _ => dA_L (fun v2 _ => dA_if (fun _ => dA_B (sm_id3 qa _ _) (fun r3 q5 z => ?_)) (fun _ => hk (qa, x2, x3, x4 + 1) rfl)))) (fun _ => dA_some rfl))
  replace z : q5 = qa := z
  subst z
  exact dA_if (fun _ => hk (q5, x2 + 1, x4 + 1, x4 + 1) rfl) (fun _ => dA_some rfl)

theorem sgi_id4 (q : dK) (p2 : Int32) : dAll (zX4_signIn_s24_t4 q p2) (fun o => o.2 = q) := by
  unfold zX4_signIn_s24_t4 zX4_signIn_s24_t4_2
  refine dA_fix (fun (a : dK × Int32 × Int32) => a.1 = q) ?_ dF _ rfl
  intro k hk a ha
  obtain ⟨qa, x2, x3⟩ := a
  replace ha : qa = q := ha
  subst ha
  show dAll (zX4_signIn_s24_t4_2b (fun q x2 x3 => k (q, x2, x3)) qa x2 x3) _
  unfold zX4_signIn_s24_t4_2b
  refine dA_if (fun _ => dA_some rfl) (fun _ => dA_G (fun _ => dA_L (fun v2 _ => dA_B (sg_id qa v2) (fun r3 q5 z => ?_))))
  replace z : q5 = qa := z
  subst z
  exact dA_if (fun _ => hk (q5, x2, x3 + 1) rfl) (fun _ => dA_some rfl)

theorem sgi_id5 (q : dK) (p2 : Int32) : dAll (zX4_signIn_s24_t5 q p2) (fun o => o.2 = q) := by
  unfold zX4_signIn_s24_t5 zX4_signIn_s24_t5_2
  refine dA_fix (fun (a : dK × Int32 × Int32) => a.1 = q) ?_ dF _ rfl
  intro k hk a ha
  obtain ⟨qa, x2, x3⟩ := a
  replace ha : qa = q := ha
  subst ha
  show dAll (zX4_signIn_s24_t5_2b (fun q x2 x3 => k (q, x2, x3)) qa x2 x3) _
  unfold zX4_signIn_s24_t5_2b
  refine dA_if (fun _ => dA_some rfl) (fun _ => dA_G (fun _ => dA_L (fun v2 _ => dA_B (sg_id qa v2) (fun r3 q5 z => ?_))))
  replace z : q5 = qa := z
  subst z
  exact dA_if (fun _ => hk (q5, x2, x3 + 1) rfl) (fun _ => dA_some rfl)

theorem sgi_id9 (q : dK) (p2 : Int32) : dAll (zX4_signIn_s24_t9 q p2) (fun o => o.2 = q) := by
  unfold zX4_signIn_s24_t9 zX4_signIn_s24_t9_2
  refine dA_fix (fun (a : dK × Int32 × Int32) => a.1 = q) ?_ dF _ rfl
  intro k hk a ha
  obtain ⟨qa, x2, x3⟩ := a
  replace ha : qa = q := ha
  subst ha
  show dAll (zX4_signIn_s24_t9_2b (fun q x2 x3 => k (q, x2, x3)) qa x2 x3) _
  unfold zX4_signIn_s24_t9_2b
  refine dA_if (fun _ => dA_some rfl) (fun _ => dA_G (fun _ => dA_L (fun v2 _ => dA_B (sg_id qa v2) (fun r3 q5 z => ?_))))
  replace z : q5 = qa := z
  subst z
  exact dA_if (fun _ => hk (q5, x2, x3 + 1) rfl) (fun _ => dA_some rfl)

/-! a text's tokens: where each begins and ends, its code, its value; the T-th is the end -/
def stP (n T : Nat) (ps : Nat → Nat) (t : Nat) : Nat := if t < T then ps t else n
def TKS (B : Nat → Int) (n T : Nat) (ps es : Nat → Nat) (cs vs : Nat → Int) : Prop := n ≤ 400 ∧ T ≤ 400 ∧ (∀ i : Nat, i < n → 0 ≤ B i ∧ B i ≤ 255) ∧ (∀ j : Nat, j < T → Sk B n (pn es j) (ps j) ∧ TKd B n (ps j) (es j) (cs j) (vs j)) ∧ Sk B n (pn es T) n ∧ cs T = 0 ∧ vs T = 0
/-- the class: what stays; at a token; behind a fault -/
def SC (B : Nat → Int) (n : Nat) (oo : Int) (q : dK) : Prop := (∀ i : Nat, Int32.toInt (q.1 46 i) = B i) ∧ Int32.toInt (q.1 24 1) = (n : Int) ∧ Int32.toInt (q.1 24 2) = oo
def CQ (B : Nat → Int) (n T : Nat) (ps es : Nat → Nat) (q : dK) (t : Nat) (d l : Int) : Prop := q.1 24 10 = -1 ∧ t ≤ T ∧ Int32.toInt (q.1 24 5) = ((stP n T ps t : Nat) : Int) ∧ Int32.toInt (q.1 24 6) = ((stP n T es t : Nat) : Int) ∧ Int32.toInt (q.1 24 4) = (if t < T then tkC (B (ps t)) else 0) ∧ (t < T → tkC (B (ps t)) = 2 → Int32.toInt (q.1 24 7) = mn1 (dv B (ps t) (es t - ps t))) ∧ Int32.toInt (q.1 24 8) = l ∧ Int32.toInt (q.1 24 9) = d
def CF (q : dK) (f : Int) : Prop := Int32.toInt (q.1 24 10) = f ∧ ¬ f = -1
def CS (q o : dK) : Prop := (∀ k : Nat, o.1 24 k = q.1 24 k) ∧ ∀ i : Nat, o.1 46 i = q.1 46 i
theorem CS.rf {q : dK} : CS q q := ⟨fun _ => rfl, fun _ => rfl⟩
theorem CS.t {q o u : dK} (h : CS q o) (k : CS o u) : CS q u := ⟨fun i => (k.1 i).trans (h.1 i), fun i => (k.2 i).trans (h.2 i)⟩
theorem CS.i {q o : dK} {j k : Nat} {v : Int32} (h : CS q o) (h1 : ¬ j = 24) (h2 : ¬ j = 46) : CS q (cui o j k v) := ⟨fun i => by rw [cui_o (fun z => h1 z.symm)]; exact h.1 i, fun i => by rw [cui_o (fun z => h2 z.symm)]; exact h.2 i⟩
theorem SC.s {B : Nat → Int} {n : Nat} {oo : Int} {q o : dK} (h : SC B n oo q) (k : CS q o) : SC B n oo o := ⟨fun i => by rw [k.2]; exact h.1 i, by rw [k.1]; exact h.2.1, by rw [k.1]; exact h.2.2⟩
theorem CQ.s {B : Nat → Int} {n T : Nat} {ps es : Nat → Nat} {q o : dK} {t : Nat} {d l : Int} (h : CQ B n T ps es q t d l) (k : CS q o) : CQ B n T ps es o t d l := by
  unfold CQ at h ⊢
  rw [k.1, k.1, k.1, k.1, k.1, k.1, k.1]
  exact h
theorem CF.s {q o : dK} {f : Int} (h : CF q f) (k : CS q o) : CF o f := ⟨by rw [k.1]; exact h.1, h.2⟩
/-- the reference: what stays; at a token; behind a fault -/
def SM (n T : Nat) (ps : Nat → Nat) (cs vs : Nat → Int) (oo : Int) (q : dS) : Prop := (∀ j : Nat, j ≤ T → Int32.toInt (q.1 9 j) = cs j ∧ Int32.toInt (q.1 10 j) = vs j ∧ Int32.toInt (q.1 11 j) = ((stP n T ps j : Nat) : Int)) ∧ Int32.toInt (q.1 0 18) = (T : Int) ∧ ((oo = 0 ∧ Int32.toInt (q.1 0 10) = 0 ∧ Int32.toInt (q.1 0 8) = 8 ∧ Int32.toInt (q.1 0 9) = 16) ∨ (oo = 1 ∧ Int32.toInt (q.1 0 10) = 1 ∧ Int32.toInt (q.1 0 8) = 15 ∧ Int32.toInt (q.1 0 9) = 21))
def MA (T : Nat) (q : dS) (t : Nat) (l : Int) : Prop := q.1 0 21 = -1 ∧ t ≤ T ∧ Int32.toInt (q.1 0 19) = (t : Int) ∧ Int32.toInt (q.1 0 20) = l
def MF (q : dS) (f : Int) : Prop := Int32.toInt (q.1 0 21) = f ∧ ¬ f = -1
theorem i32_ne {x : Int32} {f : Int} (h : Int32.toInt x = f) (hf : ¬ f = -1) : ¬ x = -1 := fun z => hf (by rw [← h, z]; decide)
section R4
variable {B : Nat → Int} {n T : Nat} {ps es : Nat → Nat} {cs vs : Nat → Int} {oo : Int}
theorem st_lt {t : Nat} {ps : Nat → Nat} (h : t < T) : stP n T ps t = ps t := if_pos h
theorem st_T {t : Nat} {ps : Nat → Nat} (h : ¬ t < T) : stP n T ps t = n := if_neg h
theorem tk_le (hK : TKS B n T ps es cs vs) {t : Nat} (ht : t ≤ T) : stP n T ps t ≤ stP n T es t ∧ stP n T es t ≤ n := by
  by_cases c : t < T
  · rw [st_lt c, st_lt c]
    have z := (hK.2.2.2.1 t c).2.2.1
    rcases z with z | z
    · have := (hK.2.2.2.1 t c).2.1
      omega
    · exact ⟨Nat.le_of_lt z.2.1, z.2.2.1⟩
  · rw [st_T c, st_T c]; exact ⟨Nat.le_refl _, Nat.le_refl _⟩
/-- a sign at hand is told by the code -/
theorem tk_sign (hK : TKS B n T ps es cs vs) {q : dK} {t : Nat} {d l : Int} (h : CQ B n T ps es q t d l) (c : Int) (hc : tkC c = 3) (h0 : 0 ≤ c) : sgA B n (stP n T ps t) (Int32.toInt (q.1 24 4)) c ↔ cs t = 100 + c := by
  obtain ⟨h1, h2, h3, h4, h5, h6, h7, h8⟩ := h
  unfold sgA
  rw [h5]
  by_cases ct : t < T
  · rw [if_pos ct, st_lt ct]
    obtain ⟨k1, k2, k3⟩ := (hK.2.2.2.1 t ct).2
    have hb := hK.2.2.1 (ps t) k1
    rcases k3 with k3 | k3 | k3
    · refine ⟨fun z => by omega, fun z => ?_⟩
      exfalso
      rcases k3.2.1 with ⟨w, w1, w2, w3, w4⟩ | w
      · omega
      · omega
    · exact ⟨fun z => by omega, fun z => by omega⟩
    · refine ⟨fun z => by omega, fun z => ⟨k3.1, k1, by omega⟩⟩
  · rw [if_neg ct]
    have eT : t = T := by omega
    rw [eT, hK.2.2.2.2.2.1]
    exact ⟨fun z => by omega, fun z => by omega⟩
/-- a word at hand is told by the code -/
theorem tk_word (hK : TKS B n T ps es cs vs) {q : dK} {t : Nat} {d l : Int} (h : CQ B n T ps es q t d l) (w : Nat) (hw1 : 1 ≤ w) (hw2 : w ≤ 26) : (Int32.toInt (q.1 24 4) = 1 ∧ isW B (stP n T ps t) (stP n T es t) w) ↔ cs t = (w : Int) := by
  obtain ⟨h1, h2, h3, h4, h5, h6, h7, h8⟩ := h
  rw [h5]
  by_cases ct : t < T
  · rw [if_pos ct, st_lt ct, st_lt ct]
    obtain ⟨k1, k2, k3⟩ := (hK.2.2.2.1 t ct).2
    have hb := hK.2.2.1 (ps t) k1
    rcases k3 with k3 | k3 | k3
    · refine ⟨fun z => ?_, fun z => ⟨k3.1, ?_⟩⟩
      · rcases k3.2.1 with ⟨v, v1, v2, v3, v4⟩ | v
        · rw [v3, isW_u hw1 hw2 v1 v2 z.2 v4]
        · exact absurd z.2 (v.2 w hw1 hw2)
      · rcases k3.2.1 with ⟨v, v1, v2, v3, v4⟩ | v
        · rw [show w = v by omega]; exact v4
        · omega
    · exact ⟨fun z => by omega, fun z => by omega⟩
    · exact ⟨fun z => by omega, fun z => by omega⟩
  · rw [if_neg ct]
    have eT : t = T := by omega
    rw [eT, hK.2.2.2.2.2.1]
    exact ⟨fun z => by omega, fun z => by omega⟩
/-- a number at hand, and the end -/
theorem tk_num (hK : TKS B n T ps es cs vs) {q : dK} {t : Nat} {d l : Int} (h : CQ B n T ps es q t d l) : (Int32.toInt (q.1 24 4) = 2 ↔ cs t = 50) ∧ (Int32.toInt (q.1 24 4) = 0 ↔ t = T) ∧ (cs t = 50 → t < T ∧ (∀ k : Int, k ≤ 1000 → (Int32.toInt (q.1 24 7) ≤ k ↔ vs t ≤ k)) ∧ (vs t ≤ 1000 → Int32.toInt (q.1 24 7) = vs t) ∧ 0 ≤ vs t) := by
  obtain ⟨h1, h2, h3, h4, h5, h6, h7, h8⟩ := h
  rw [h5]
  by_cases ct : t < T
  · rw [if_pos ct]
    obtain ⟨k1, k2, k3⟩ := (hK.2.2.2.1 t ct).2
    have hb := hK.2.2.1 (ps t) k1
    have htk := tkC_r (B (ps t))
    rcases k3 with k3 | k3 | k3
    · refine ⟨⟨fun z => by omega, fun z => ?_⟩, ⟨fun z => by omega, fun z => by omega⟩, fun z => ?_⟩
      · exfalso
        rcases k3.2.1 with ⟨w, w1, w2, w3, w4⟩ | w
        · omega
        · omega
      · exfalso
        rcases k3.2.1 with ⟨w, w1, w2, w3, w4⟩ | w
        · omega
        · omega
    · have e7 := h6 ct k3.1
      have hr := k3.2.2
      have hd0 : 0 ≤ dv B (ps t) (es t - ps t) := by
        refine dv_0 _ (fun i hi => ?_)
        rcases k2 with k2 | k2
        · omega
        · exact ((tkC_2 _).mp ((k2.2.2.2.2.1 (ps t + i) (by omega) (by omega)).trans k3.1)).1
      refine ⟨⟨fun _ => k3.2.1, fun _ => k3.1⟩, ⟨fun z => by omega, fun z => by omega⟩, fun _ => ⟨ct, fun k hk => ?_, fun hv => ?_, ?_⟩⟩
      · rw [e7]
        unfold mn1
        unfold vR at hr
        by_cases c : dv B (ps t) (es t - ps t) < 1001
        · rw [if_pos c]; omega
        · rw [if_neg c]; omega
      · rw [e7]
        unfold mn1
        unfold vR at hr
        by_cases c : dv B (ps t) (es t - ps t) < 1001
        · rw [if_pos c]; omega
        · rw [if_neg c]; omega
      · unfold vR at hr
        omega
    · exact ⟨⟨fun z => by omega, fun z => by omega⟩, ⟨fun z => by omega, fun z => by omega⟩, fun z => by omega⟩
  · rw [if_neg ct]
    have eT : t = T := by omega
    rw [eT, hK.2.2.2.2.2.1]
    exact ⟨⟨fun z => by omega, fun z => by omega⟩, ⟨fun _ => rfl, fun _ => rfl⟩, fun z => by omega⟩
/-! the class -/
theorem c_step (hK : TKS B n T ps es cs vs) (q : dK) {t : Nat} {d l : Int} (hs : SC B n oo q) (h : CQ B n T ps es q t d l) (ht : t < T) : dAll (zX4_step_s24 q) (fun o => SC B n oo o ∧ CQ B n T ps es o (t + 1) d l) := by
  obtain ⟨h1, h2, h3, h4, h5, h6, h7, h8⟩ := h
  have hle := tk_le hK h2
  refine dA_mono (st_step (B := B) q (stP n T es t) n hs.1 h1 hs.2.1 hK.1 h4 hle.2) (fun o z => ?_)
  obtain ⟨s, e, z1, z2, z3, z4, z5, z6, z7⟩ := z
  have f : ∀ k : Nat, ¬ (k = 4 ∨ k = 5 ∨ k = 6 ∨ k = 7) → o.1 24 k = q.1 24 k := fun k hk => z7 24 k (fun y => hk y.2)
  rw [st_lt ht] at z1
  refine ⟨⟨fun i => by rw [z7 46 i (by omega)]; exact hs.1 i, by rw [f 1 (by decide)]; exact hs.2.1, by rw [f 2 (by decide)]; exact hs.2.2⟩, by rw [f 10 (by decide)]; exact h1, by omega, ?_⟩
  have hpn : pn es (t + 1) = es t := by unfold pn; rw [if_neg (by omega), Nat.add_sub_cancel]
  by_cases c : t + 1 < T
  · obtain ⟨k0, k1, k2, k3⟩ := hK.2.2.2.1 (t + 1) c
    rw [hpn] at k0
    have es1 : s = ps (t + 1) := Sk_u z1 k0
    subst es1
    have ee := En_u z2 k2
    subst ee
    rw [st_lt c, st_lt c, if_pos c]
    exact ⟨z3, z4, by rw [z5, if_pos k1], fun _ y => z6 k1 y, by rw [f 8 (by decide)]; exact h7, by rw [f 9 (by decide)]; exact h8⟩
  · have eT : t + 1 = T := by omega
    have k0 := hK.2.2.2.2.1
    rw [← eT, hpn] at k0
    have es1 : s = n := Sk_u z1 k0
    rw [es1] at z2 z3 z5
    have ee : e = n := by
      rcases z2 with y | y
      · exact y.2
      · omega
    rw [st_T c, st_T c, if_neg c]
    exact ⟨z3, by rw [z4, ee], by rw [z5, if_neg (Nat.lt_irrefl _)], fun y => absurd y c, by rw [f 8 (by decide)]; exact h7, by rw [f 9 (by decide)]; exact h8⟩
theorem c_stepF (q : dK) {f : Int} (h : CF q f) : dAll (zX4_step_s24 q) (fun o => CF o f) := by
  unfold zX4_step_s24
  exact dA_if (fun c => absurd c (i32_ne h.1 h.2)) (fun _ => dA_some h)
theorem c_fail (q : dK) {t : Nat} {d l : Int} (h : CQ B n T ps es q t d l) : dAll (zX4_fail_s24 q) (fun o => CF o ((stP n T ps t : Nat) : Int)) := by
  unfold zX4_fail_s24 zX4_fail_s24_16
  refine dA_if (fun _ => dA_L (fun q1 e1 => dA_some ⟨?_, by omega⟩)) (fun c => absurd h.1 c)
  rw [e1, cui_e]; exact h.2.2.1
theorem c_failF (q : dK) {f : Int} (h : CF q f) : dAll (zX4_fail_s24 q) (fun o => CF o f) := by
  unfold zX4_fail_s24 zX4_fail_s24_16
  exact dA_if (fun c => absurd c (i32_ne h.1 h.2)) (fun _ => dA_some h)
theorem c_sign (hK : TKS B n T ps es cs vs) (q : dK) (p1 : Int32) {t : Nat} {d l : Int} (hs : SC B n oo q) (h : CQ B n T ps es q t d l) (hc : tkC (Int32.toInt p1) = 3) (h0 : 0 ≤ Int32.toInt p1) : dAll (zX4_isSign_s24 q p1) (fun o => o.2 = q ∧ ((Int32.toInt o.1 = 1 ∧ cs t = 100 + Int32.toInt p1) ∨ (Int32.toInt o.1 = 0 ∧ ¬ cs t = 100 + Int32.toInt p1))) := by
  have k := tk_sign hK h (Int32.toInt p1) hc h0
  refine dA_mono (sg_is (B := B) q p1 n (stP n T ps t) hs.1 hs.2.1 h.2.2.1) (fun o z => ⟨z.1, ?_⟩)
  rcases z.2 with y | y
  · exact Or.inl ⟨y.1, k.mp y.2⟩
  · exact Or.inr ⟨y.1, fun w => y.2 (k.mpr w)⟩
theorem c_wd6 (hK : TKS B n T ps es cs vs) (q : dK) {t : Nat} {d l : Int} (hs : SC B n oo q) (h : CQ B n T ps es q t d l) : dAll (zX4_isWord_s24_t6 q) (fun o => o.2 = q ∧ ((Int32.toInt o.1 = 1 ∧ cs t = 26) ∨ (Int32.toInt o.1 = 0 ∧ ¬ cs t = 26))) := by
  have k := tk_word hK h 26 (by decide) (by decide)
  have hle := tk_le hK h.2.1
  have h4 := hK.1
  refine dA_mono (wd_6 (B := B) q (stP n T ps t) (stP n T es t) hs.1 h.2.2.1 h.2.2.2.1 hle.1 (by omega)) (fun o z => ⟨z.1, ?_⟩)
  rcases z.2 with y | y
  · exact Or.inl ⟨y.1, k.mp y.2⟩
  · exact Or.inr ⟨y.1, fun w => y.2 (k.mpr w)⟩

theorem c_wd7 (hK : TKS B n T ps es cs vs) (q : dK) {t : Nat} {d l : Int} (hs : SC B n oo q) (h : CQ B n T ps es q t d l) : dAll (zX4_isWord_s24_t7 q) (fun o => o.2 = q ∧ ((Int32.toInt o.1 = 1 ∧ cs t = 4) ∨ (Int32.toInt o.1 = 0 ∧ ¬ cs t = 4))) := by
  have k := tk_word hK h 4 (by decide) (by decide)
  have hle := tk_le hK h.2.1
  have h4 := hK.1
  refine dA_mono (wd_7 (B := B) q (stP n T ps t) (stP n T es t) hs.1 h.2.2.1 h.2.2.2.1 hle.1 (by omega)) (fun o z => ⟨z.1, ?_⟩)
  rcases z.2 with y | y
  · exact Or.inl ⟨y.1, k.mp y.2⟩
  · exact Or.inr ⟨y.1, fun w => y.2 (k.mpr w)⟩

theorem c_wd8 (hK : TKS B n T ps es cs vs) (q : dK) {t : Nat} {d l : Int} (hs : SC B n oo q) (h : CQ B n T ps es q t d l) : dAll (zX4_isWord_s24_t8 q) (fun o => o.2 = q ∧ ((Int32.toInt o.1 = 1 ∧ cs t = 7) ∨ (Int32.toInt o.1 = 0 ∧ ¬ cs t = 7))) := by
  have k := tk_word hK h 7 (by decide) (by decide)
  have hle := tk_le hK h.2.1
  have h4 := hK.1
  refine dA_mono (wd_8 (B := B) q (stP n T ps t) (stP n T es t) hs.1 h.2.2.1 h.2.2.2.1 hle.1 (by omega)) (fun o z => ⟨z.1, ?_⟩)
  rcases z.2 with y | y
  · exact Or.inl ⟨y.1, k.mp y.2⟩
  · exact Or.inr ⟨y.1, fun w => y.2 (k.mpr w)⟩

theorem c_wd10 (hK : TKS B n T ps es cs vs) (q : dK) {t : Nat} {d l : Int} (hs : SC B n oo q) (h : CQ B n T ps es q t d l) : dAll (zX4_isWord_s24_t10 q) (fun o => o.2 = q ∧ ((Int32.toInt o.1 = 1 ∧ cs t = 6) ∨ (Int32.toInt o.1 = 0 ∧ ¬ cs t = 6))) := by
  have k := tk_word hK h 6 (by decide) (by decide)
  have hle := tk_le hK h.2.1
  have h4 := hK.1
  refine dA_mono (wd_10 (B := B) q (stP n T ps t) (stP n T es t) hs.1 h.2.2.1 h.2.2.2.1 hle.1 (by omega)) (fun o z => ⟨z.1, ?_⟩)
  rcases z.2 with y | y
  · exact Or.inl ⟨y.1, k.mp y.2⟩
  · exact Or.inr ⟨y.1, fun w => y.2 (k.mpr w)⟩

theorem c_wd11 (hK : TKS B n T ps es cs vs) (q : dK) {t : Nat} {d l : Int} (hs : SC B n oo q) (h : CQ B n T ps es q t d l) : dAll (zX4_isWord_s24_t11 q) (fun o => o.2 = q ∧ ((Int32.toInt o.1 = 1 ∧ cs t = 5) ∨ (Int32.toInt o.1 = 0 ∧ ¬ cs t = 5))) := by
  have k := tk_word hK h 5 (by decide) (by decide)
  have hle := tk_le hK h.2.1
  have h4 := hK.1
  refine dA_mono (wd_11 (B := B) q (stP n T ps t) (stP n T es t) hs.1 h.2.2.1 h.2.2.2.1 hle.1 (by omega)) (fun o z => ⟨z.1, ?_⟩)
  rcases z.2 with y | y
  · exact Or.inl ⟨y.1, k.mp y.2⟩
  · exact Or.inr ⟨y.1, fun w => y.2 (k.mpr w)⟩

theorem c_win0 (hK : TKS B n T ps es cs vs) (q : dK) {t : Nat} {d l : Int} (hs : SC B n oo q) (h : CQ B n T ps es q t d l) : dAll (zX4_wordIn_s24_t0 q) (fun o => o.2 = q ∧ ((∃ j : Nat, j < 4 ∧ Int32.toInt o.1 = (j : Int) ∧ cs t = ((wcd_0 j : Nat) : Int)) ∨ (Int32.toInt o.1 = -1 ∧ ∀ j : Nat, j < 4 → ¬ cs t = ((wcd_0 j : Nat) : Int)))) := by
  have hw : ∀ j : Nat, j < 4 → 1 ≤ wcd_0 j ∧ wcd_0 j ≤ 26 := by decide
  have hle := tk_le hK h.2.1
  have h4 := hK.1
  refine dA_mono (win_0 (B := B) q (stP n T ps t) (stP n T es t) hs.1 h.2.2.1 h.2.2.2.1 hle.1 (by omega)) (fun o z => ⟨z.1, ?_⟩)
  rcases z.2 with ⟨y1, j, y2, y3, y4⟩ | ⟨y1, y2⟩
  · exact Or.inl ⟨j, y2, y3, (tk_word hK h _ (hw j y2).1 (hw j y2).2).mp ⟨y1, y4⟩⟩
  · exact Or.inr ⟨y1, fun j hj w => y2 j hj ((tk_word hK h _ (hw j hj).1 (hw j hj).2).mpr w)⟩

theorem c_win1 (hK : TKS B n T ps es cs vs) (q : dK) {t : Nat} {d l : Int} (hs : SC B n oo q) (h : CQ B n T ps es q t d l) : dAll (zX4_wordIn_s24_t1 q) (fun o => o.2 = q ∧ ((∃ j : Nat, j < 3 ∧ Int32.toInt o.1 = (j : Int) ∧ cs t = ((wcd_1 j : Nat) : Int)) ∨ (Int32.toInt o.1 = -1 ∧ ∀ j : Nat, j < 3 → ¬ cs t = ((wcd_1 j : Nat) : Int)))) := by
  have hw : ∀ j : Nat, j < 3 → 1 ≤ wcd_1 j ∧ wcd_1 j ≤ 26 := by decide
  have hle := tk_le hK h.2.1
  have h4 := hK.1
  refine dA_mono (win_1 (B := B) q (stP n T ps t) (stP n T es t) hs.1 h.2.2.1 h.2.2.2.1 hle.1 (by omega)) (fun o z => ⟨z.1, ?_⟩)
  rcases z.2 with ⟨y1, j, y2, y3, y4⟩ | ⟨y1, y2⟩
  · exact Or.inl ⟨j, y2, y3, (tk_word hK h _ (hw j y2).1 (hw j y2).2).mp ⟨y1, y4⟩⟩
  · exact Or.inr ⟨y1, fun j hj w => y2 j hj ((tk_word hK h _ (hw j hj).1 (hw j hj).2).mpr w)⟩

theorem c_win2 (hK : TKS B n T ps es cs vs) (q : dK) {t : Nat} {d l : Int} (hs : SC B n oo q) (h : CQ B n T ps es q t d l) : dAll (zX4_wordIn_s24_t2 q) (fun o => o.2 = q ∧ ((∃ j : Nat, j < 7 ∧ Int32.toInt o.1 = (j : Int) ∧ cs t = ((wcd_2 j : Nat) : Int)) ∨ (Int32.toInt o.1 = -1 ∧ ∀ j : Nat, j < 7 → ¬ cs t = ((wcd_2 j : Nat) : Int)))) := by
  have hw : ∀ j : Nat, j < 7 → 1 ≤ wcd_2 j ∧ wcd_2 j ≤ 26 := by decide
  have hle := tk_le hK h.2.1
  have h4 := hK.1
  refine dA_mono (win_2 (B := B) q (stP n T ps t) (stP n T es t) hs.1 h.2.2.1 h.2.2.2.1 hle.1 (by omega)) (fun o z => ⟨z.1, ?_⟩)
  rcases z.2 with ⟨y1, j, y2, y3, y4⟩ | ⟨y1, y2⟩
  · exact Or.inl ⟨j, y2, y3, (tk_word hK h _ (hw j y2).1 (hw j y2).2).mp ⟨y1, y4⟩⟩
  · exact Or.inr ⟨y1, fun j hj w => y2 j hj ((tk_word hK h _ (hw j hj).1 (hw j hj).2).mpr w)⟩

theorem c_win3 (hK : TKS B n T ps es cs vs) (q : dK) {t : Nat} {d l : Int} (hs : SC B n oo q) (h : CQ B n T ps es q t d l) : dAll (zX4_wordIn_s24_t3 q) (fun o => o.2 = q ∧ ((∃ j : Nat, j < 9 ∧ Int32.toInt o.1 = (j : Int) ∧ cs t = ((wcd_3 j : Nat) : Int)) ∨ (Int32.toInt o.1 = -1 ∧ ∀ j : Nat, j < 9 → ¬ cs t = ((wcd_3 j : Nat) : Int)))) := by
  have hw : ∀ j : Nat, j < 9 → 1 ≤ wcd_3 j ∧ wcd_3 j ≤ 26 := by decide
  have hle := tk_le hK h.2.1
  have h4 := hK.1
  refine dA_mono (win_3 (B := B) q (stP n T ps t) (stP n T es t) hs.1 h.2.2.1 h.2.2.2.1 hle.1 (by omega)) (fun o z => ⟨z.1, ?_⟩)
  rcases z.2 with ⟨y1, j, y2, y3, y4⟩ | ⟨y1, y2⟩
  · exact Or.inl ⟨j, y2, y3, (tk_word hK h _ (hw j y2).1 (hw j y2).2).mp ⟨y1, y4⟩⟩
  · exact Or.inr ⟨y1, fun j hj w => y2 j hj ((tk_word hK h _ (hw j hj).1 (hw j hj).2).mpr w)⟩

theorem c_sgi4 (hK : TKS B n T ps es cs vs) (q : dK) (p2 : Int32) {t : Nat} {d l : Int} (hs : SC B n oo q) (h : CQ B n T ps es q t d l) (hp : 0 ≤ Int32.toInt p2 ∧ Int32.toInt p2 ≤ 100) : dAll (zX4_signIn_s24_t4 q p2) (fun o => o.2 = q ∧ ((∃ j : Nat, j < 3 ∧ Int32.toInt o.1 = Int32.toInt p2 + (j : Int) ∧ cs t = 100 + ([42, 47, 37] : List Int).getD j 0) ∨ (Int32.toInt o.1 = -1 ∧ ∀ j : Nat, j < 3 → ¬ cs t = 100 + ([42, 47, 37] : List Int).getD j 0))) := by
  have hc : ∀ j : Nat, j < 3 → tkC (([42, 47, 37] : List Int).getD j 0) = 3 ∧ 0 ≤ ([42, 47, 37] : List Int).getD j 0 := by decide
  refine dA_mono (sgi_4 (B := B) q p2 n (stP n T ps t) hs.1 hs.2.1 h.2.2.1 hp) (fun o z => ⟨z.1, ?_⟩)
  rcases z.2 with ⟨j, y2, y3, y4⟩ | ⟨y1, y2⟩
  · exact Or.inl ⟨j, y2, y3, (tk_sign hK h _ (hc j y2).1 (hc j y2).2).mp y4⟩
  · exact Or.inr ⟨y1, fun j hj w => y2 j hj ((tk_sign hK h _ (hc j hj).1 (hc j hj).2).mpr w)⟩

theorem c_sgi5 (hK : TKS B n T ps es cs vs) (q : dK) (p2 : Int32) {t : Nat} {d l : Int} (hs : SC B n oo q) (h : CQ B n T ps es q t d l) (hp : 0 ≤ Int32.toInt p2 ∧ Int32.toInt p2 ≤ 100) : dAll (zX4_signIn_s24_t5 q p2) (fun o => o.2 = q ∧ ((∃ j : Nat, j < 2 ∧ Int32.toInt o.1 = Int32.toInt p2 + (j : Int) ∧ cs t = 100 + ([43, 45] : List Int).getD j 0) ∨ (Int32.toInt o.1 = -1 ∧ ∀ j : Nat, j < 2 → ¬ cs t = 100 + ([43, 45] : List Int).getD j 0))) := by
  have hc : ∀ j : Nat, j < 2 → tkC (([43, 45] : List Int).getD j 0) = 3 ∧ 0 ≤ ([43, 45] : List Int).getD j 0 := by decide
  refine dA_mono (sgi_5 (B := B) q p2 n (stP n T ps t) hs.1 hs.2.1 h.2.2.1 hp) (fun o z => ⟨z.1, ?_⟩)
  rcases z.2 with ⟨j, y2, y3, y4⟩ | ⟨y1, y2⟩
  · exact Or.inl ⟨j, y2, y3, (tk_sign hK h _ (hc j y2).1 (hc j y2).2).mp y4⟩
  · exact Or.inr ⟨y1, fun j hj w => y2 j hj ((tk_sign hK h _ (hc j hj).1 (hc j hj).2).mpr w)⟩

theorem c_sgi9 (hK : TKS B n T ps es cs vs) (q : dK) (p2 : Int32) {t : Nat} {d l : Int} (hs : SC B n oo q) (h : CQ B n T ps es q t d l) (hp : 0 ≤ Int32.toInt p2 ∧ Int32.toInt p2 ≤ 100) : dAll (zX4_signIn_s24_t9 q p2) (fun o => o.2 = q ∧ ((∃ j : Nat, j < 3 ∧ Int32.toInt o.1 = Int32.toInt p2 + (j : Int) ∧ cs t = 100 + ([60, 62, 61] : List Int).getD j 0) ∨ (Int32.toInt o.1 = -1 ∧ ∀ j : Nat, j < 3 → ¬ cs t = 100 + ([60, 62, 61] : List Int).getD j 0))) := by
  have hc : ∀ j : Nat, j < 3 → tkC (([60, 62, 61] : List Int).getD j 0) = 3 ∧ 0 ≤ ([60, 62, 61] : List Int).getD j 0 := by decide
  refine dA_mono (sgi_9 (B := B) q p2 n (stP n T ps t) hs.1 hs.2.1 h.2.2.1 hp) (fun o z => ⟨z.1, ?_⟩)
  rcases z.2 with ⟨j, y2, y3, y4⟩ | ⟨y1, y2⟩
  · exact Or.inl ⟨j, y2, y3, (tk_sign hK h _ (hc j y2).1 (hc j y2).2).mp y4⟩
  · exact Or.inr ⟨y1, fun j hj w => y2 j hj ((tk_sign hK h _ (hc j hj).1 (hc j hj).2).mpr w)⟩

theorem c_emit (q : dK) (p1 p2 : Int32) : dAll (zX7_emit_s25 q p1 p2) (fun o => CS q o) := by
  unfold zX7_emit_s25 zX7_emit_s25_36
  exact dA_if (fun _ => dA_some CS.rf) (fun _ => dA_G (fun _ => dA_L (fun q2 e2 => dA_L (fun q3 e3 => dA_some (by rw [e3, e2]; exact (CS.rf.i (by decide) (by decide)).i (by decide) (by decide))))))
theorem c_leap (q : dK) (p1 p2 : Int32) : dAll (zX7_leapHere_s25 q p1 p2) (fun o => CS q o) := by
  unfold zX7_leapHere_s25 zX7_leapHere_s25_26
  exact dA_if (fun _ => dA_some CS.rf) (fun _ => dA_if (fun _ => dA_some CS.rf) (fun _ => dA_G (fun _ => dA_L (fun q2 e2 => dA_some (by rw [e2]; exact CS.rf.i (by decide) (by decide))))))
theorem c_begin (q : dK) (p1 : Int32) : dAll (zX7_beginClause_s25 q p1) (fun o => CS q o) := by
  unfold zX7_beginClause_s25 zX7_beginClause_s25_81
  refine dA_if (fun _ => dA_some CS.rf) (fun _ => dA_G (fun _ => dA_L (fun q2 e2 => dA_G (fun _ => dA_L (fun q4 e4 => dA_G (fun _ => dA_L (fun q6 e6 => dA_G (fun _ => dA_L (fun q8 e8 => dA_G (fun _ => dA_L (fun q10 e10 => dA_L (fun q11 e11 => dA_some ?_))))))))))))
  rw [e11, e10, e8, e6, e4, e2]
  exact (((((CS.rf.i (by decide) (by decide)).i (by decide) (by decide)).i (by decide) (by decide)).i (by decide) (by decide)).i (by decide) (by decide)).i (by decide) (by decide)
theorem c_endSum (q : dK) : dAll (zX7_endSum_s25 q) (fun o => CS q o) := by
  unfold zX7_endSum_s25 zX7_endSum_s25_37
  refine dA_if (fun _ => dA_some CS.rf) (fun _ => dA_G (fun _ => dA_L (fun q2 e2 => dA_G (fun _ => dA_L (fun q4 e4 => dA_some ?_)))))
  rw [e4, e2]
  exact (CS.rf.i (by decide) (by decide)).i (by decide) (by decide)
theorem c_endTest (q : dK) : dAll (zX7_endTest_s25 q) (fun o => CS q o) := by
  unfold zX7_endTest_s25 zX7_endTest_s25_22
  exact dA_if (fun _ => dA_some CS.rf) (fun _ => dA_G (fun _ => dA_L (fun q2 e2 => dA_some (by rw [e2]; exact CS.rf.i (by decide) (by decide)))))
theorem c_times (q : dK) (p1 : Int32) : dAll (zX7_setTimes_s25 q p1) (fun o => CS q o) := by
  unfold zX7_setTimes_s25 zX7_setTimes_s25_19
  exact dA_if (fun _ => dA_some CS.rf) (fun _ => dA_G (fun _ => dA_L (fun q2 e2 => dA_some (by rw [e2]; exact CS.rf.i (by decide) (by decide)))))
/-- a field of the reader that none of these looks at: open, parts -/
theorem c_set8 (q : dK) (v : Int32) {t : Nat} {d l : Int} (hs : SC B n oo q) (h : CQ B n T ps es q t d l) : SC B n oo (cui q 24 8 v) ∧ CQ B n T ps es (cui q 24 8 v) t d (Int32.toInt v) := by
  refine ⟨⟨fun i => by rw [cui_o (by decide)]; exact hs.1 i, by rw [cui_n (by decide)]; exact hs.2.1, by rw [cui_n (by decide)]; exact hs.2.2⟩, ?_⟩
  unfold CQ at h ⊢
  rw [cui_n (by decide), cui_n (by decide), cui_n (by decide), cui_n (by decide), cui_n (by decide), cui_e, cui_n (by decide)]
  exact ⟨h.1, h.2.1, h.2.2.1, h.2.2.2.1, h.2.2.2.2.1, h.2.2.2.2.2.1, rfl, h.2.2.2.2.2.2.2⟩
theorem c_set9 (q : dK) (v : Int32) {t : Nat} {d l : Int} (hs : SC B n oo q) (h : CQ B n T ps es q t d l) : SC B n oo (cui q 24 9 v) ∧ CQ B n T ps es (cui q 24 9 v) t (Int32.toInt v) l := by
  refine ⟨⟨fun i => by rw [cui_o (by decide)]; exact hs.1 i, by rw [cui_n (by decide)]; exact hs.2.1, by rw [cui_n (by decide)]; exact hs.2.2⟩, ?_⟩
  unfold CQ at h ⊢
  rw [cui_n (by decide), cui_n (by decide), cui_n (by decide), cui_n (by decide), cui_n (by decide), cui_n (by decide), cui_e]
  exact ⟨h.1, h.2.1, h.2.2.1, h.2.2.2.1, h.2.2.2.2.1, h.2.2.2.2.2.1, h.2.2.2.2.2.2.1, rfl⟩
theorem c_setF (q : dK) (j k : Nat) (v : Int32) {f : Int} (h : CF q f) (hj : ¬ (j = 24 ∧ k = 10)) : CF (cui q j k v) f := ⟨by rw [cui_x (fun z => hj ⟨z.1.symm, z.2.symm⟩)]; exact h.1, h.2⟩
/-! the reference -/
theorem m_fine (q : dS) {t : Nat} {l : Int} (h : MA T q t l) : dAll (zX10_fine q) (fun o => o.2 = q ∧ Int32.toInt o.1 = 1) := by
  unfold zX10_fine zX10_fine_13
  exact dA_if (fun _ => dA_G (fun _ => dA_some ⟨rfl, (by decide : Int32.toInt 1 = 1)⟩)) (fun c => absurd h.1 c)
theorem m_fineF (q : dS) {f : Int} (h : MF q f) : dAll (zX10_fine q) (fun o => o.2 = q ∧ Int32.toInt o.1 = 0) := by
  unfold zX10_fine zX10_fine_13
  exact dA_if (fun c => absurd c (i32_ne h.1 h.2)) (fun _ => dA_G (fun _ => dA_some ⟨rfl, (by decide : Int32.toInt 0 = 0)⟩))
theorem m_faults (q : dS) {t : Nat} {l : Int} (hs : SM n T ps cs vs oo q) (h : MA T q t l) : dAll (zX10_faults q) (fun o => MF o ((stP n T ps t : Nat) : Int)) := by
  have d0 : Int32.toInt 0 = 0 := by decide
  unfold zX10_faults zX10_faults_20
  refine dA_B (m_fine q h) (fun r1 q3 z => ?_)
  obtain ⟨z1, z2⟩ := z
  replace z1 : q3 = q := z1
  replace z2 : Int32.toInt r1 = 1 := z2
  subst z1
  refine dA_eq (fun _ c => by omega) (fun _ _ => dA_G (fun _ => dA_L (fun v5 e5 => dA_L (fun q6 e6 => dA_some ⟨?_, by omega⟩))))
  have n1 := cl_eq (i := q3.1 0 19) (by rw [h.2.2.1]; omega)
  have h3 := h.2.2.1
  rw [e6, dui_e, e5, show Int32.toNatClampNeg (q3.1 0 19) = t by omega]
  exact (hs.1 t h.2.1).2.2
theorem m_faultsF (q : dS) {f : Int} (h : MF q f) : dAll (zX10_faults q) (fun o => MF o f) := by
  have d0 : Int32.toInt 0 = 0 := by decide
  unfold zX10_faults zX10_faults_20
  refine dA_B (m_fineF q h) (fun r1 q3 z => ?_)
  obtain ⟨z1, z2⟩ := z
  replace z1 : q3 = q := z1
  replace z2 : Int32.toInt r1 = 0 := z2
  subst z1
  exact dA_eq (fun _ _ => dA_some h) (fun _ c => absurd (z2.trans d0.symm) c)
/-- one token on -/
theorem m_next (q : dS) {t : Nat} {l : Int} (hs : SM n T ps cs vs oo q) (h : MA T q t l) (ht : t < T) (h4 : T ≤ 400) : SM n T ps cs vs oo (dui q 0 19 (q.1 0 19 + 1 : Int32)) ∧ MA T (dui q 0 19 (q.1 0 19 + 1 : Int32)) (t + 1) l := by
  have d1 : Int32.toInt 1 = 1 := by decide
  have h3 := h.2.2.1
  have t1 : Int32.toInt (q.1 0 19 + 1 : Int32) = (t : Int) + 1 := ti_add h3 d1 (by omega) (by omega)
  refine ⟨⟨fun j hj => by rw [dui_o (by decide), dui_o (by decide), dui_o (by decide)]; exact hs.1 j hj, by rw [dui_n (by decide)]; exact hs.2.1, by rw [dui_n (by decide), dui_n (by decide), dui_n (by decide)]; exact hs.2.2⟩, by rw [dui_n (by decide)]; exact h.1, by omega, by rw [dui_e, t1]; omega, by rw [dui_n (by decide)]; exact h.2.2.2⟩
theorem cs_lt (hK : TKS B n T ps es cs vs) {t : Nat} (ht : t ≤ T) (h : ¬ cs t = 0) : t < T := by
  rcases Nat.lt_or_ge t T with c | c
  · exact c
  · have e : t = T := by omega
    rw [e, hK.2.2.2.2.2.1] at h
    exact absurd rfl h
theorem m_takes (hK : TKS B n T ps es cs vs) (q : dS) (p1 : Int32) {t : Nat} {l : Int} (hs : SM n T ps cs vs oo q) (h : MA T q t l) (hp : ¬ Int32.toInt p1 = 0) : dAll (zX10_takes0 q p1) (fun o => (Int32.toInt o.1 = 1 ∧ cs t = Int32.toInt p1 ∧ t < T ∧ SM n T ps cs vs oo o.2 ∧ MA T o.2 (t + 1) l) ∨ (Int32.toInt o.1 = 0 ∧ ¬ cs t = Int32.toInt p1 ∧ o.2 = q)) := by
  have d0 : Int32.toInt 0 = 0 := by decide
  have d1 : Int32.toInt 1 = 1 := by decide
  have h3 := h.2.2.1
  unfold zX10_takes0
  refine dA_B (m_fine q h) (fun r1 q3 z => ?_)
  obtain ⟨z1, z2⟩ := z
  replace z1 : q3 = q := z1
  replace z2 : Int32.toInt r1 = 1 := z2
  subst z1
  refine dA_eq (fun _ c => by omega) (fun _ _ => dA_G (fun _ => dA_L (fun v5 e5 => ?_)))
  have n1 := cl_eq (i := q3.1 0 19) (by omega)
  have ev : Int32.toInt v5 = cs t := by rw [e5, show Int32.toNatClampNeg (q3.1 0 19) = t by omega]; exact (hs.1 t h.2.1).1
  unfold zX10_takes0_24 zX10_takes0_25 zX10_takes0_40
  refine dA_eq (fun _ c => dA_if (fun c1 => absurd c1 (by decide)) (fun _ => dA_L (fun q1 e1 => dA_G (fun _ => dA_some (Or.inl ?_))))) (fun _ c => dA_if (fun _ => dA_G (fun _ => dA_some (Or.inr ⟨d0, by omega, rfl⟩))) (fun c1 => absurd rfl c1))
  have ht : t < T := cs_lt hK h.2.1 (by omega)
  have z := m_next q3 hs h ht hK.2.1
  rw [← e1] at z
  exact ⟨d1, by omega, ht, z.1, z.2⟩
theorem m_takesF (q : dS) (p1 : Int32) {f : Int} (h : MF q f) : dAll (zX10_takes0 q p1) (fun o => Int32.toInt o.1 = 0 ∧ o.2 = q) := by
  have d0 : Int32.toInt 0 = 0 := by decide
  unfold zX10_takes0 zX10_takes0_24 zX10_takes0_25 zX10_takes0_40
  refine dA_B (m_fineF q h) (fun r1 q3 z => ?_)
  obtain ⟨z1, z2⟩ := z
  replace z1 : q3 = q := z1
  replace z2 : Int32.toInt r1 = 0 := z2
  subst z1
  refine dA_eq (fun _ _ => dA_if (fun _ => dA_G (fun _ => dA_some ⟨d0, rfl⟩)) (fun c1 => absurd rfl c1)) (fun _ c => absurd (z2.trans d0.symm) c)
theorem m_mustF (q : dS) (p1 : Int32) {f : Int} (h : MF q f) : dAll (zX10_must q p1) (fun o => MF o f) := by
  have d0 : Int32.toInt 0 = 0 := by decide
  unfold zX10_must zX10_must_12
  refine dA_B (m_takesF q p1 h) (fun r1 q3 z => ?_)
  obtain ⟨z1, z2⟩ := z
  replace z2 : q3 = q := z2
  replace z1 : Int32.toInt r1 = 0 := z1
  subst z2
  exact dA_eq (fun _ _ => dA_V (m_faultsF q3 h) (fun q6 z => dA_some z)) (fun _ c => absurd (z1.trans d0.symm) c)
/-- where both are: at the same token, or behind the same fault -/
def RR (B : Nat → Int) (n T : Nat) (ps es : Nat → Nat) (cs vs : Nat → Int) (oo : Int) (m : Nat) (d : Int) (q : dK) (q2 : dS) : Prop := (∃ (t : Nat) (l : Int), m ≤ t ∧ SC B n oo q ∧ CQ B n T ps es q t d l ∧ SM n T ps cs vs oo q2 ∧ MA T q2 t l ∧ 0 ≤ l ∧ l ≤ 50) ∨ ∃ f : Int, CF q f ∧ MF q2 f
theorem r_fail {d l : Int} {t : Nat} {q : dK} {q2 : dS} (h : CQ B n T ps es q t d l) (hs : SM n T ps cs vs oo q2) (h2 : MA T q2 t l) {m : Nat} {d' : Int} : d2 (zX4_fail_s24 q) (zX10_faults q2) (RR B n T ps es cs vs oo m d') :=
  d2_of (c_fail q h) (m_faults q2 hs h2) (fun a b ha hb => Or.inr ⟨_, ha, hb⟩)
theorem r_must (hK : TKS B n T ps es cs vs) {m : Nat} {d : Int} {q : dK} {q2 : dS} (p1 : Int32) (p2 : Int32) (hp : Int32.toInt p2 = 100 + Int32.toInt p1) (hc : tkC (Int32.toInt p1) = 3) (h0 : 0 ≤ Int32.toInt p1) (h : RR B n T ps es cs vs oo m d q q2) : d2 (zX4_expectSign_s24 q p1) (zX10_must q2 p2) (RR B n T ps es cs vs oo m d) := by
  have d0 : Int32.toInt 0 = 0 := by decide
  rcases h with ⟨t, l, hm, h1, h2, h3, h4, h5, h6⟩ | ⟨f, h1, h2⟩
  · unfold zX4_expectSign_s24 zX4_expectSign_s24_19 zX10_must zX10_must_12
    refine d2_lB (c_sign hK q p1 h1 h2 hc h0) (fun r1 q3 z => ?_)
    obtain ⟨z1, z2⟩ := z
    replace z1 : q3 = q := z1
    replace z2 : (Int32.toInt r1 = 1 ∧ cs t = 100 + Int32.toInt p1) ∨ (Int32.toInt r1 = 0 ∧ ¬ cs t = 100 + Int32.toInt p1) := z2
    subst z1
    refine d2_rB (m_takes hK q2 p2 h3 h4 (by omega)) (fun r2 q4 y => ?_)
    replace y : (Int32.toInt r2 = 1 ∧ cs t = Int32.toInt p2 ∧ t < T ∧ SM n T ps cs vs oo q4 ∧ MA T q4 (t + 1) l) ∨ (Int32.toInt r2 = 0 ∧ ¬ cs t = Int32.toInt p2 ∧ q4 = q2) := y
    refine d2_lif (fun c => d2_rif (fun c2 => ?_) (fun c2 => ?_)) (fun c => d2_rif (fun c2 => ?_) (fun c2 => ?_))
    · rcases y with y | y
      · exfalso
        rw [c2, d0] at y
        omega
      · rw [y.2.2]
        exact d2_VV (r_fail h2 h3 h4) (fun a b w => d2_some w)
    · exfalso
      rw [c, d0] at z2
      rcases y with y | y
      · omega
      · exact c2 (Int32.toInt_inj.mp (y.1.trans d0.symm))
    · exfalso
      rw [c2, d0] at y
      rcases z2 with z2 | z2
      · omega
      · exact c (Int32.toInt_inj.mp (z2.1.trans d0.symm))
    · rcases y with y | y
      · exact d2_lV (c_step hK q3 h1 h2 y.2.2.1) (fun o w => d2_some (Or.inl ⟨t + 1, l, by omega, w.1, w.2, y.2.2.2.1, y.2.2.2.2, h5, h6⟩))
      · exact absurd (Int32.toInt_inj.mp (y.1.trans d0.symm)) c2
  · unfold zX4_expectSign_s24 zX4_expectSign_s24_19
    have hq : dAll (dB (zX4_isSign_s24 q p1) (fun r1 q3 => if r1 = 0 then dV (zX4_fail_s24 q3) (fun q6 => some q6) else dV (zX4_step_s24 q3) (fun q9 => some q9))) (fun o => CF o f) := by
      refine dA_B (sg_id q p1) (fun r1 q3 z => ?_)
      replace z : q3 = q := z
      subst z
      exact dA_if (fun _ => dA_V (c_failF q3 h1) (fun o w => dA_some w)) (fun _ => dA_V (c_stepF q3 h1) (fun o w => dA_some w))
    exact d2_of hq (m_mustF q2 p2 h2) (fun a b ha hb => Or.inr ⟨f, ha, hb⟩)
end R4

