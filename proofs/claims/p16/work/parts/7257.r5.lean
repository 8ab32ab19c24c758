/-! behind a fault nothing goes on -/
theorem f_exp (q : dK) (p1 : Int32) {f : Int} (h1 : CF q f) : dAll (zX4_expectSign_s24 q p1) (fun o => CF o f) := by
  unfold zX4_expectSign_s24 zX4_expectSign_s24_19
  refine dA_B (sg_id q p1) (fun r1 q3 z => ?_)
  replace z : q3 = q := z
  subst z
  exact dA_if (fun _ => dA_V (c_failF q3 h1) (fun o w => dA_some w)) (fun _ => dA_V (c_stepF q3 h1) (fun o w => dA_some w))
theorem f_open (q : dK) {f : Int} (h : CF q f) : dAll (zX4_openBracket_s24 q) (fun o => CF o.2 f) := by
  unfold zX4_openBracket_s24
  refine dA_if (fun _ => dA_L (fun q1 e1 => dA_V (c_stepF q1 ?_) (fun o w => dA_some w))) (fun _ => dA_V (c_failF q h) (fun o w => dA_some w))
  rw [e1]; exact c_setF q 24 9 _ h (by decide)
theorem f_place (q : dK) (p1 : Int32) {f : Int} (h : CF q f) : dAll (zX4_readPlace_s24 q p1) (fun o => CF o f) := by
  unfold zX4_readPlace_s24 zX4_readPlace_s24_17
  have hf : dAll (dV (zX4_fail_s24 q) (fun q3 => some q3)) (fun o => CF o f) := dA_V (c_failF q h) (fun o w => dA_some w)
  exact dA_if (fun _ => dA_if (fun _ => dA_G (fun _ => dA_V (c_emit q _ _) (fun q4 w => dA_V (c_stepF q4 (h.s w)) (fun o w2 => dA_some w2)))) (fun _ => hf)) (fun _ => hf)
theorem f_part {kS : dK → Option dK} {f : Int} (hk : ∀ q : dK, CF q f → dAll (kS q) (fun o => CF o f)) (q : dK) (h : CF q f) : dAll (zX4_readPart_s24 kS q) (fun o => CF o f) := by
  have h98 : ∀ q : dK, CF q f → dAll (zX4_readPart_s24_98 kS q) (fun o => CF o f) := by
    intro q h
    unfold zX4_readPart_s24_98
    exact dA_V (c_failF q h) (fun o w => dA_some w)
  have h168 : ∀ (q : dK) (x1 : Int32), CF q f → dAll (zX4_readPart_s24_168 kS q x1) (fun o => CF o f) := by
    intro q x1 h
    unfold zX4_readPart_s24_168 zX4_readPart_s24_177
    exact dA_G (fun _ => dA_V (c_emit q _ _) (fun o w => dA_some (h.s w)))
  have h162 : ∀ (q : dK) (y0 : Int32), CF q f → dAll (zX4_readPart_s24_162 kS q y0) (fun o => CF o f) := by
    intro q y0 h
    unfold zX4_readPart_s24_162 zX4_readPart_s24_177
    exact dA_V (f_place q y0 h) (fun o w => dA_some w)
  have h89 : ∀ (q : dK) (x1 x2 : Int32), CF q f → dAll (zX4_readPart_s24_89 kS q x1 x2) (fun o => CF o f) := by
    intro q x1 x2 h
    unfold zX4_readPart_s24_89 zX4_readPart_s24_177
    refine dA_if (fun _ => dA_L (fun q1 e1 => dA_V (c_stepF (f := f) q1 ?_) (fun q4 w => ?_))) (fun _ => h98 q h)
    · rw [e1]; exact c_setF q 24 8 _ h (by decide)
    · exact dA_if (fun _ => dA_if (fun _ => h168 q4 x1 w) (fun _ => dA_if (fun _ => h168 q4 x1 w) (fun _ => dA_if (fun _ => h162 q4 5 w) (fun _ => h162 q4 11 w)))) (fun _ => dA_G (fun _ => dA_V (c_emit q4 _ _) (fun q8 w8 => dA_some (w.s w8))))
  have h79 : ∀ (q : dK) (x1 y0 : Int32), CF q f → dAll (zX4_readPart_s24_79 kS q x1 y0) (fun o => CF o f) := by
    intro q x1 y0 h
    unfold zX4_readPart_s24_79
    exact dA_if (fun _ => dA_if (fun _ => h98 q h) (fun _ => h89 q x1 y0 h)) (fun _ => h89 q x1 y0 h)
  unfold zX4_readPart_s24
  refine dA_B (sg_id q 91) (fun r1 q3 z => ?_)
  replace z : q3 = q := z
  subst z
  refine dA_if (fun _ => dA_if (fun _ => ?_) (fun _ => dA_B (win_id2 q3) (fun r4 q6 z => ?_))) (fun _ => dA_B (f_open q3 h) (fun r7 q9 w => ?_))
  · unfold zX4_readPart_s24_52 zX4_readPart_s24_78
    refine dA_B (win_id3 q3) (fun r4 q6 z => ?_)
    replace z : q6 = q3 := z
    subst z
    exact dA_if (fun _ => dA_if (fun _ => h79 q6 r4 0 h) (fun _ => h79 q6 r4 1 h)) (fun _ => h79 q6 r4 0 h)
  · replace z : q6 = q3 := z
    subst z
    unfold zX4_readPart_s24_78
    exact dA_if (fun _ => dA_if (fun _ => h79 q6 r4 0 h) (fun _ => h79 q6 r4 1 h)) (fun _ => h79 q6 r4 0 h)
  · replace w : CF q9 f := w
    unfold zX4_readPart_s24_36
    refine dA_if (fun _ => dA_some w) (fun _ => dA_V (hk q9 w) (fun q12 w2 => dA_L (fun q13 e13 => dA_V (f_exp q13 93 ?_) (fun o w3 => dA_some w3))))
    rw [e13]; exact c_setF q12 24 9 _ w2 (by decide)

theorem f_term {kS : dK → Option dK} {f : Int} (hk : ∀ q : dK, CF q f → dAll (kS q) (fun o => CF o f)) (q : dK) (h : CF q f) : dAll (zX4_readTerm_s24 kS q) (fun o => CF o f) := by
  unfold zX4_readTerm_s24
  refine dA_V (f_part hk q h) (fun q3 w => ?_)
  unfold zX4_readTerm_s24_6
  refine dA_fix (fun (a : dK × Int32) => CF a.1 f) ?_ dF _ w
  intro k hk6 a ha
  obtain ⟨qa, x1⟩ := a
  replace ha : CF qa f := ha
  show dAll (zX4_readTerm_s24_6b kS (fun q x1 => k (q, x1)) qa x1) _
  unfold zX4_readTerm_s24_6b zX4_readTerm_s24_59
  exact dA_if (fun _ => dA_some ha) (fun _ => dA_if (fun c => absurd c (i32_ne ha.1 ha.2)) (fun _ => dA_some ha))

theorem f_sum {kS : dK → Option dK} {f : Int} (hk : ∀ q : dK, CF q f → dAll (kS q) (fun o => CF o f)) (q : dK) (h : CF q f) : dAll (zX4_readSum_s24_o kS q) (fun o => CF o f) := by
  unfold zX4_readSum_s24_o
  refine dA_V (f_term hk q h) (fun q3 w => ?_)
  unfold zX4_readSum_s24_6
  refine dA_fix (fun (a : dK × Int32) => CF a.1 f) ?_ dF _ w
  intro k hk6 a ha
  obtain ⟨qa, x1⟩ := a
  replace ha : CF qa f := ha
  show dAll (zX4_readSum_s24_6b kS (fun q x1 => k (q, x1)) qa x1) _
  unfold zX4_readSum_s24_6b zX4_readSum_s24_59
  exact dA_if (fun _ => dA_some ha) (fun _ => dA_if (fun c => absurd c (i32_ne ha.1 ha.2)) (fun _ => dA_some ha))

theorem f_sumN {f : Int} : ∀ (n : Nat) (q : dK), CF q f → dAll (zX4_readSum_s24 n q) (fun o => CF o f) := by
  intro n
  induction n with
  | zero => intro q _ o e; cases e
  | succ n ih => intro q h; exact f_sum ih q h
theorem f_plain41 {kT : dK → Option dK} {f : Int} (hk : ∀ q : dK, CF q f → dAll (kT q) (fun o => CF o f)) (q : dK) (x1 : Int32) (h : CF q f) : dAll (zX4_readPlain_s24_41 kT q x1) (fun o => CF o f) := by
  have h128 : ∀ (q : dK) (x1 : Int32), CF q f → dAll (zX4_readPlain_s24_128 kT q x1) (fun o => CF o f) := by
    intro q x1 h
    unfold zX4_readPlain_s24_128 zX4_readPlain_s24_142
    exact dA_if (fun _ => dA_some h) (fun _ => dA_G (fun _ => dA_V (c_emit q _ _) (fun o w => dA_some (h.s w))))
  have h106 : ∀ q : dK, CF q f → dAll (zX4_readPlain_s24_106 kT q) (fun o => CF o f) := by
    intro q h
    unfold zX4_readPlain_s24_106
    exact dA_V (c_failF q h) (fun o w => dA_some w)
  unfold zX4_readPlain_s24_41
  refine dA_B (sg_id q 40) (fun r1 q3 z => ?_)
  replace z : q3 = q := z
  subst z
  refine dA_if (fun _ => dA_V (f_sumN 10 q3 h) (fun q6 w => dA_B (sgi_id9 q6 7) (fun r7 q9 z => ?_))) (fun _ => dA_B (f_open q3 h) (fun r20 q22 w => ?_))
  · replace z : q9 = q6 := z
    subst z
    exact dA_if (fun c => absurd c (i32_ne w.1 w.2)) (fun _ => h106 q9 w)
  · replace w : CF q22 f := w
    refine dA_if (fun _ => h128 q22 x1 w) (fun _ => dA_V (hk q22 w) (fun q25 w2 => dA_L (fun q26 e26 => dA_V (f_exp q26 41 ?_) (fun q29 w3 => h128 q29 x1 w3))))
    rw [e26]; exact c_setF q25 24 9 _ w2 (by decide)
theorem f_plain {kT : dK → Option dK} {f : Int} (hk : ∀ q : dK, CF q f → dAll (kT q) (fun o => CF o f)) (q : dK) (h : CF q f) : dAll (zX4_readPlain_s24 kT q) (fun o => CF o f) := by
  unfold zX4_readPlain_s24 zX4_readPlain_s24_4
  refine dA_fix (fun (a : dK × Int32 × Int32) => CF a.1 f) ?_ dF _ h
  intro k hk4 a ha
  obtain ⟨qa, x1, x2⟩ := a
  replace ha : CF qa f := ha
  show dAll (zX4_readPlain_s24_4b kT (fun q x1 x2 => k (q, x1, x2)) qa x1 x2) _
  unfold zX4_readPlain_s24_4b zX4_readPlain_s24_30
  refine dA_if (fun _ => f_plain41 hk qa x1 ha) (fun _ => dA_B (wd_id8 qa) (fun r1 q3 z => ?_))
  replace z : q3 = qa := z
  subst z
  exact dA_if (fun _ => f_plain41 hk q3 x1 ha) (fun _ => dA_if (fun _ => dA_V (c_stepF q3 ha) (fun q4 w => hk4 (q4, 1, x2 + 1) w)) (fun _ => dA_V (c_stepF q3 ha) (fun q4 w => hk4 (q4, 0, x2 + 1) w)))

theorem f_both {kT : dK → Option dK} {f : Int} (hk : ∀ q : dK, CF q f → dAll (kT q) (fun o => CF o f)) (q : dK) (h : CF q f) : dAll (zX4_readBoth_s24 kT q) (fun o => CF o f) := by
  unfold zX4_readBoth_s24
  refine dA_V (f_plain hk q h) (fun q3 w => ?_)
  unfold zX4_readBoth_s24_6
  refine dA_fix (fun (a : dK × Int32) => CF a.1 f) ?_ dF _ w
  intro k hk6 a ha
  obtain ⟨qa, x1⟩ := a
  replace ha : CF qa f := ha
  show dAll (zX4_readBoth_s24_6b kT (fun q x1 => k (q, x1)) qa x1) _
  unfold zX4_readBoth_s24_6b zX4_readBoth_s24_73
  exact dA_if (fun _ => dA_some ha) (fun _ => dA_if (fun c => absurd c (i32_ne ha.1 ha.2)) (fun _ => dA_some ha))

theorem f_test {kT : dK → Option dK} {f : Int} (hk : ∀ q : dK, CF q f → dAll (kT q) (fun o => CF o f)) (q : dK) (h : CF q f) : dAll (zX4_readTest_s24_o kT q) (fun o => CF o f) := by
  unfold zX4_readTest_s24_o
  refine dA_V (f_both hk q h) (fun q3 w => ?_)
  unfold zX4_readTest_s24_6
  refine dA_fix (fun (a : dK × Int32) => CF a.1 f) ?_ dF _ w
  intro k hk6 a ha
  obtain ⟨qa, x1⟩ := a
  replace ha : CF qa f := ha
  show dAll (zX4_readTest_s24_6b kT (fun q x1 => k (q, x1)) qa x1) _
  unfold zX4_readTest_s24_6b zX4_readTest_s24_73
  exact dA_if (fun _ => dA_some ha) (fun _ => dA_if (fun c => absurd c (i32_ne ha.1 ha.2)) (fun _ => dA_some ha))

theorem f_testN {f : Int} : ∀ (n : Nat) (q : dK), CF q f → dAll (zX4_readTest_s24 n q) (fun o => CF o f) := by
  intro n
  induction n with
  | zero => intro q _ o e; cases e
  | succ n ih => intro q h; exact f_test ih q h
theorem g_part {kS : dS → Int32 → Option dS} {f : Int} (q : dS) (p1 : Int32) (h : MF q f) : dAll (zX10_readPart kS q p1) (fun o => MF o f) := by
  have d0 : Int32.toInt 0 = 0 := by decide
  unfold zX10_readPart
  refine dA_B (m_fineF q h) (fun r1 q3 z => ?_)
  obtain ⟨z1, z2⟩ := z
  replace z1 : q3 = q := z1
  replace z2 : Int32.toInt r1 = 0 := z2
  subst z1
  exact dA_eq (fun _ _ => dA_some h) (fun _ c => absurd (z2.trans d0.symm) c)
theorem g_leaf (q : dS) {f : Int} (h : MF q f) : dAll (zX10_leaf q) (fun o => MF o f) := by
  have d0 : Int32.toInt 0 = 0 := by decide
  have h13 : ∀ q : dS, MF q f → dAll (zX10_leaf_13 q) (fun o => MF o f) := by
    intro q h
    unfold zX10_leaf_13 zX10_leaf_40
    refine dA_L (fun q1 e1 => ?_)
    have h1 : MF q1 f := ⟨by rw [e1, dui_n (by decide)]; exact h.1, h.2⟩
    refine dA_B (m_fineF q1 h1) (fun r2 q4 z => ?_)
    obtain ⟨z1, z2⟩ := z
    replace z1 : q4 = q1 := z1
    replace z2 : Int32.toInt r2 = 0 := z2
    subst z1
    exact dA_eq (fun _ _ => dA_some h1) (fun _ c => absurd (z2.trans d0.symm) c)
  unfold zX10_leaf
  exact dA_if (fun _ => dA_V (m_faultsF q h) (fun o w => h13 o w)) (fun _ => h13 q h)
theorem g_num (q : dS) (p1 p2 : Int32) {f : Int} (h : MF q f) : dAll (zX10_mustNumber q p1 p2) (fun o => MF o f) := by
  have d0 : Int32.toInt 0 = 0 := by decide
  unfold zX10_mustNumber
  refine dA_B (m_fineF q h) (fun r1 q3 z => ?_)
  obtain ⟨z1, z2⟩ := z
  replace z1 : q3 = q := z1
  replace z2 : Int32.toInt r1 = 0 := z2
  subst z1
  refine dA_eq (fun _ _ => ?_) (fun _ c => absurd (z2.trans d0.symm) c)
  unfold zX10_mustNumber_42 zX10_mustNumber_59
  refine dA_B (m_fineF q3 h) (fun r2 q4 y => ?_)
  obtain ⟨y1, y2⟩ := y
  replace y1 : q4 = q3 := y1
  replace y2 : Int32.toInt r2 = 0 := y2
  subst y1
  exact dA_eq (fun _ _ => dA_some h) (fun _ c => absurd (y2.trans d0.symm) c)
theorem m_sign (p1 : Int32) : dAll (zX10_sign p1) (fun r => r = (100 + p1 : Int32)) := dA_some rfl

theorem g_term {kS : dS → Int32 → Option dS} {f : Int} (q : dS) (p1 : Int32) (h : MF q f) : dAll (zX10_readTerm kS q p1) (fun o => MF o f) := by
  have d0 : Int32.toInt 0 = 0 := by decide
  unfold zX10_readTerm
  refine dA_V (g_part q p1 h) (fun q3 w => ?_)
  unfold zX10_readTerm_5
  refine dA_fix (fun (a : dS × Int32) => MF a.1 f) ?_ dF _ w
  intro k hk a ha
  obtain ⟨qa, x1⟩ := a
  replace ha : MF qa f := ha
  show dAll (zX10_readTerm_5b kS (fun q x1 => k (q, x1)) qa x1) _
  unfold zX10_readTerm_5b
  refine dA_V (m_sign 42) (fun s0 _ => dA_B (m_takesF qa s0 ha) (fun r0 q0 z => ?_))
  obtain ⟨z1, z2⟩ := z
  replace z2 : q0 = qa := z2
  replace z1 : Int32.toInt r0 = 0 := z1
  subst z2
  refine dA_eq (fun _ _ => ?_) (fun _ c => absurd (z1.trans d0.symm) c)
  refine dA_V (m_sign 47) (fun s1 _ => dA_B (m_takesF q0 s1 ha) (fun r1 q1 z => ?_))
  obtain ⟨z1, z2⟩ := z
  replace z2 : q1 = q0 := z2
  replace z1 : Int32.toInt r1 = 0 := z1
  subst z2
  refine dA_eq (fun _ _ => ?_) (fun _ c => absurd (z1.trans d0.symm) c)
  refine dA_V (m_sign 37) (fun s2 _ => dA_B (m_takesF q1 s2 ha) (fun r2 q2 z => ?_))
  obtain ⟨z1, z2⟩ := z
  replace z2 : q2 = q1 := z2
  replace z1 : Int32.toInt r2 = 0 := z1
  subst z2
  exact dA_eq (fun _ _ => dA_some ha) (fun _ c => absurd (z1.trans d0.symm) c)

theorem g_sum {kS : dS → Int32 → Option dS} {f : Int} (q : dS) (p1 : Int32) (h : MF q f) : dAll (zX10_readSum_o kS q p1) (fun o => MF o f) := by
  have d0 : Int32.toInt 0 = 0 := by decide
  unfold zX10_readSum_o
  refine dA_V (g_term q p1 h) (fun q3 w => ?_)
  unfold zX10_readSum_5
  refine dA_fix (fun (a : dS × Int32) => MF a.1 f) ?_ dF _ w
  intro k hk a ha
  obtain ⟨qa, x1⟩ := a
  replace ha : MF qa f := ha
  show dAll (zX10_readSum_5b kS (fun q x1 => k (q, x1)) qa x1) _
  unfold zX10_readSum_5b
  refine dA_V (m_sign 43) (fun s0 _ => dA_B (m_takesF qa s0 ha) (fun r0 q0 z => ?_))
  obtain ⟨z1, z2⟩ := z
  replace z2 : q0 = qa := z2
  replace z1 : Int32.toInt r0 = 0 := z1
  subst z2
  refine dA_eq (fun _ _ => ?_) (fun _ c => absurd (z1.trans d0.symm) c)
  refine dA_V (m_sign 45) (fun s1 _ => dA_B (m_takesF q0 s1 ha) (fun r1 q1 z => ?_))
  obtain ⟨z1, z2⟩ := z
  replace z2 : q1 = q0 := z2
  replace z1 : Int32.toInt r1 = 0 := z1
  subst z2
  exact dA_eq (fun _ _ => dA_some ha) (fun _ c => absurd (z1.trans d0.symm) c)

theorem g_sumN {f : Int} : ∀ (n : Nat) (q : dS) (p1 : Int32), MF q f → dAll (zX10_readSum n q p1) (fun o => MF o f) := by
  intro n
  cases n with
  | zero => intro q p1 _ o e; cases e
  | succ n => intro q p1 h; exact g_sum q p1 h
theorem g_plain {kT : dS → Int32 → Option dS} {f : Int} (q : dS) (p1 : Int32) (h : MF q f) : dAll (zX10_readPlain kT q p1) (fun o => MF o f) := by
  have d0 : Int32.toInt 0 = 0 := by decide
  unfold zX10_readPlain zX10_readPlain_2
  refine dA_fix (fun (a : dS × Int32 × Int32) => MF a.1 f) ?_ dF _ h
  intro k hk a ha
  obtain ⟨qa, x1, x2⟩ := a
  replace ha : MF qa f := ha
  show dAll (zX10_readPlain_2b kT (fun q x1 x2 => k (q, x1, x2)) qa x1 x2) _
  unfold zX10_readPlain_2b
  refine dA_if (fun _ => dA_B (m_fineF qa ha) (fun r1 q3 z => ?_)) (fun _ => dA_B (m_takesF qa 7 ha) (fun r29 q31 z => ?_))
  · obtain ⟨z1, z2⟩ := z
    replace z1 : q3 = qa := z1
    replace z2 : Int32.toInt r1 = 0 := z2
    subst z1
    exact dA_eq (fun _ _ => dA_some ha) (fun _ c => absurd (z2.trans d0.symm) c)
  · obtain ⟨z1, z2⟩ := z
    replace z2 : q31 = qa := z2
    subst z2
    exact hk (q31, x1, r29) ha

theorem g_both {kT : dS → Int32 → Option dS} {f : Int} (q : dS) (p1 : Int32) (h : MF q f) : dAll (zX10_readBoth kT q p1) (fun o => MF o f) := by
  have d0 : Int32.toInt 0 = 0 := by decide
  unfold zX10_readBoth
  refine dA_V (g_plain q p1 h) (fun q3 w => ?_)
  unfold zX10_readBoth_5
  refine dA_fix (fun (a : dS × Int32) => MF a.1 f) ?_ dF _ w
  intro k hk a ha
  obtain ⟨qa, x1⟩ := a
  replace ha : MF qa f := ha
  show dAll (zX10_readBoth_5b kT (fun q x1 => k (q, x1)) qa x1) _
  unfold zX10_readBoth_5b
  refine dA_B (m_takesF qa 6 ha) (fun r1 q3 z => ?_)
  obtain ⟨z1, z2⟩ := z
  replace z2 : q3 = qa := z2
  replace z1 : Int32.toInt r1 = 0 := z1
  subst z2
  exact dA_eq (fun _ _ => dA_some ha) (fun _ c => absurd (z1.trans d0.symm) c)

theorem g_test {kT : dS → Int32 → Option dS} {f : Int} (q : dS) (p1 : Int32) (h : MF q f) : dAll (zX10_readTest_o kT q p1) (fun o => MF o f) := by
  have d0 : Int32.toInt 0 = 0 := by decide
  unfold zX10_readTest_o
  refine dA_V (g_both q p1 h) (fun q3 w => ?_)
  unfold zX10_readTest_5
  refine dA_fix (fun (a : dS × Int32) => MF a.1 f) ?_ dF _ w
  intro k hk a ha
  obtain ⟨qa, x1⟩ := a
  replace ha : MF qa f := ha
  show dAll (zX10_readTest_5b kT (fun q x1 => k (q, x1)) qa x1) _
  unfold zX10_readTest_5b
  refine dA_B (m_takesF qa 5 ha) (fun r1 q3 z => ?_)
  obtain ⟨z1, z2⟩ := z
  replace z2 : q3 = qa := z2
  replace z1 : Int32.toInt r1 = 0 := z1
  subst z2
  exact dA_eq (fun _ _ => dA_some ha) (fun _ c => absurd (z1.trans d0.symm) c)

theorem g_testN {f : Int} : ∀ (n : Nat) (q : dS) (p1 : Int32), MF q f → dAll (zX10_readTest n q p1) (fun o => MF o f) := by
  intro n
  cases n with
  | zero => intro q p1 _ o e; cases e
  | succ n => intro q p1 h; exact g_test q p1 h

