/-! the least paid: buckets, line, links -/
def VP (q : dK) (v : Int32) : Prop := v.toInt = -1 ∨ (0 ≤ v.toInt ∧ v.toInt < Int32.toInt (q.1 32 14) ∧ ¬ Int32.toInt (q.1 43 (Int32.toNatClampNeg v)) = 2000000000)
/-- what waits is a tower with a mark; e: but for this one -/
def BQ (q : dK) (e : Int) : Prop := (∀ i : Nat, (i : Int) < Int32.toInt (q.1 32 14) → 0 ≤ Int32.toInt (q.1 43 i) ∧ Int32.toInt (q.1 43 i) ≤ 2000000000 ∧ (¬ (i : Int) = e → ¬ Int32.toInt (q.1 43 i) = 2000000000 → VP q (q.1 44 i) ∧ VP q (q.1 45 i))) ∧ ∀ b : Nat, b < 100 → VP q (q.1 38 b)
theorem vp_o {q : dK} {j k : Nat} {v w : Int32} (hj : (j != 43 && j != 32) = true) (h : VP q w) : VP (cui q j k v) w := by
  simp only [Bool.and_eq_true, bne_iff_ne, ne_eq] at hj
  unfold VP
  rw [cui_o (fun z => hj.1 z.symm), cui_o (fun z => hj.2 z.symm)]
  exact h
theorem vp_o2 {q : dK} {j k : Nat} {v w : Int32} (hj : (j != 43 && j != 32) = true) (h : VP (cui q j k v) w) : VP q w := by
  simp only [Bool.and_eq_true, bne_iff_ne, ne_eq] at hj
  unfold VP at h
  rw [cui_o (fun z => hj.1 z.symm), cui_o (fun z => hj.2 z.symm)] at h
  exact h
theorem bq_44 {q : dK} {e : Int} {k : Nat} {v : Int32} (h : BQ q e) (hv : VP q v) : BQ (cui q 44 k v) e := by
  refine ⟨fun i hi => ?_, fun b hb => ?_⟩
  · rw [cui_o (j' := 32) (by decide)] at hi
    rw [cui_o (j' := 43) (by decide), cui_o (j' := 45) (by decide)]
    obtain ⟨h1, h2, h3⟩ := h.1 i hi
    refine ⟨h1, h2, fun z1 z2 => ?_⟩
    obtain ⟨h4, h5⟩ := h3 z1 z2
    refine ⟨?_, vp_o rfl h5⟩
    by_cases c : i = k
    · subst c; rw [cui_e]; exact vp_o rfl hv
    · rw [cui_n c]; exact vp_o rfl h4
  · rw [cui_o (j' := 38) (by decide)]; exact vp_o rfl (h.2 b hb)
theorem bq_45 {q : dK} {e : Int} {k : Nat} {v : Int32} (h : BQ q e) (hv : VP q v) : BQ (cui q 45 k v) e := by
  refine ⟨fun i hi => ?_, fun b hb => ?_⟩
  · rw [cui_o (j' := 32) (by decide)] at hi
    rw [cui_o (j' := 43) (by decide), cui_o (j' := 44) (by decide)]
    obtain ⟨h1, h2, h3⟩ := h.1 i hi
    refine ⟨h1, h2, fun z1 z2 => ?_⟩
    obtain ⟨h4, h5⟩ := h3 z1 z2
    refine ⟨vp_o rfl h4, ?_⟩
    by_cases c : i = k
    · subst c; rw [cui_e]; exact vp_o rfl hv
    · rw [cui_n c]; exact vp_o rfl h5
  · rw [cui_o (j' := 38) (by decide)]; exact vp_o rfl (h.2 b hb)
theorem bq_38 {q : dK} {e : Int} {k : Nat} {v : Int32} (h : BQ q e) (hv : VP q v) : BQ (cui q 38 k v) e := by
  refine ⟨fun i hi => ?_, fun b hb => ?_⟩
  · rw [cui_o (j' := 32) (by decide)] at hi
    rw [cui_o (j' := 43) (by decide), cui_o (j' := 44) (by decide), cui_o (j' := 45) (by decide)]
    obtain ⟨h1, h2, h3⟩ := h.1 i hi
    exact ⟨h1, h2, fun z1 z2 => ⟨vp_o rfl (h3 z1 z2).1, vp_o rfl (h3 z1 z2).2⟩⟩
  · by_cases c : b = k
    · subst c; rw [cui_e]; exact vp_o rfl hv
    · rw [cui_n c]; exact vp_o rfl (h.2 b hb)
theorem vp_43 {q : dK} {k : Nat} {v w : Int32} (h1 : Int32.toInt v < 2000000000) (h : VP q w) : VP (cui q 43 k v) w := by
  rcases h with h | ⟨h2, h3, h4⟩
  · exact Or.inl h
  · refine Or.inr ⟨h2, by rw [cui_o (j' := 32) (by decide)]; exact h3, ?_⟩
    by_cases c : Int32.toNatClampNeg w = k
    · rw [c, cui_e]; omega
    · rw [cui_n c]; exact h4
theorem bq_43 {q : dK} {k : Nat} {v : Int32} (h : BQ q (-1)) (h0 : 0 ≤ Int32.toInt v) (h1 : Int32.toInt v < 2000000000) : BQ (cui q 43 k v) (k : Int) := by
  refine ⟨fun i hi => ?_, fun b hb => ?_⟩
  · rw [cui_o (j' := 32) (by decide)] at hi
    rw [cui_o (j' := 44) (by decide), cui_o (j' := 45) (by decide)]
    obtain ⟨h2, h3, h4⟩ := h.1 i hi
    by_cases c : i = k
    · subst c; rw [cui_e]; exact ⟨h0, by omega, fun z => absurd rfl z⟩
    · rw [cui_n c]
      refine ⟨h2, h3, fun _ z => ?_⟩
      obtain ⟨h5, h6⟩ := h4 (by omega) z
      exact ⟨vp_43 h1 h5, vp_43 h1 h6⟩
  · rw [cui_o (j' := 38) (by decide)]; exact vp_43 h1 (h.2 b hb)
theorem bq_put {q : dK} {k : Nat} {v w : Int32} (h : BQ q (k : Int)) (hv : VP q v) (hw : VP q w) : BQ (cui (cui q 44 k v) 45 k w) (-1) := by
  have h1 : BQ (cui (cui q 44 k v) 45 k w) (k : Int) := bq_45 (bq_44 h hv) (vp_o rfl hw)
  refine ⟨fun i hi => ?_, h1.2⟩
  obtain ⟨h2, h3, h4⟩ := h1.1 i hi
  refine ⟨h2, h3, fun _ z => ?_⟩
  by_cases c : i = k
  · subst c
    rw [cui_e, cui_o (j' := 44) (by decide), cui_e]
    exact ⟨vp_o rfl (vp_o rfl hv), vp_o rfl (vp_o rfl hw)⟩
  · exact h4 (by omega) z
theorem bq_fr {S : List Nat} {F : List (Nat × Nat)} {q q' : dK} {e : Int} (h : BQ q e) (hF : cFr S F q q') (hd : (!S.contains 43 && !S.contains 44 && !S.contains 45 && !S.contains 38 && !S.contains 32 && F.all (fun p => p.1 != 43 && p.1 != 44 && p.1 != 45 && p.1 != 38 && (p.1 != 32 || p.2 != 14))) = true) : BQ q' e := by
  simp only [Bool.and_eq_true, Bool.not_eq_true', List.contains_eq_mem, decide_eq_false_iff_not, List.all_eq_true, Bool.or_eq_true, bne_iff_ne, ne_eq] at hd
  obtain ⟨⟨⟨⟨⟨d1, d2⟩, d3⟩, d4⟩, d5⟩, d6⟩ := hd
  have e43 : q'.1 43 = q.1 43 := hF.row 43 d1 (fun p hp => (d6 p hp).1.1.1.1)
  have e44 : q'.1 44 = q.1 44 := hF.row 44 d2 (fun p hp => (d6 p hp).1.1.1.2)
  have e45 : q'.1 45 = q.1 45 := hF.row 45 d3 (fun p hp => (d6 p hp).1.1.2)
  have e38 : q'.1 38 = q.1 38 := hF.row 38 d4 (fun p hp => (d6 p hp).1.2)
  have e32 : q'.1 32 14 = q.1 32 14 := hF.1 32 14 d5 (fun z => by rcases (d6 _ z).2 with y | y; exact y rfl; exact y rfl)
  unfold BQ VP at h ⊢
  rw [e43, e44, e45, e38, e32]
  exact h
/-- a sum's bucket -/
theorem bk_r {x : Int32} (h : 0 ≤ Int32.toInt x) : 0 ≤ Int32.toInt (x - x / 100 * 100) ∧ Int32.toInt (x - x / 100 * 100) < 100 := by
  have h1 : Int32.toInt (x - x / 100 * 100) = Int32.toInt x % 100 := ti_rem rfl (by decide) h (by omega)
  omega
/-- a tower and its rows -/
def TW (q : dK) (t : Int32) : Prop := 0 ≤ Int32.toInt t ∧ Int32.toInt t < Int32.toInt (q.1 32 14) ∧ ¬ Int32.toInt (q.1 43 (Int32.toNatClampNeg t)) = 2000000000
theorem ld_ln {q : dK} (hT : TC q) (h : LD q) {t : Int32} (h0 : 0 ≤ Int32.toInt t) (h1 : Int32.toInt t < Int32.toInt (q.1 32 14)) : dg t (Int32.toNatClampNeg (q.1 32 103)) = true ∧ dg t (Int32.toNatClampNeg (q.1 32 104)) = true ∧ dg t (Int32.toNatClampNeg (q.1 32 105)) = true ∧ dg t (Int32.toNatClampNeg (q.1 32 106)) = true := by
  have s := ld_sz h
  have r3 := rg_32_103 hT
  have r4 := rg_32_104 hT
  have r5 := rg_32_105 hT
  have r6 := rg_32_106 hT
  exact ⟨dg_ok h0 (by rw [cl_eq r3.1]; omega), dg_ok h0 (by rw [cl_eq r4.1]; omega), dg_ok h0 (by rw [cl_eq r5.1]; omega), dg_ok h0 (by rw [cl_eq r6.1]; omega)⟩
theorem ok_X3_putInBucket_s32 (q : dK) (p1 : Int32) (hT : TC q) (hp0 : LD q) (hp1 : TW q p1) (hp2 : BQ q (Int32.toInt p1)) : dOk (zX3_putInBucket_s32 q p1) (fun (o : dK) => (TC o) ∧ (cFr [38, 44, 45] [] q o) ∧ (BQ o (-1))) := by
  obtain ⟨t0, t1, t2⟩ := hp1
  have hVt : VP q p1 := Or.inr ⟨t0, t1, t2⟩
  have nt := cl_eq t0
  obtain ⟨g3, g4, g5, g6⟩ := ld_ln hT hp0 t0 t1
  have fr : ∀ (q' : dK), q'.1 32 = q.1 32 → (Int32.toNatClampNeg (q'.1 32 105) = Int32.toNatClampNeg (q.1 32 105) ∧ Int32.toNatClampNeg (q'.1 32 106) = Int32.toNatClampNeg (q.1 32 106)) := fun q' e => by rw [e]; exact ⟨rfl, rfl⟩
  unfold zX3_putInBucket_s32
  refine dOk_G g4 (dOk_L (fun v2 e2 => ?_))
  have b2 := hp2.1 (Int32.toNatClampNeg p1) (by omega)
  have m2 : 0 ≤ Int32.toInt v2 := by rw [e2]; exact b2.1
  have hb := bk_r m2
  obtain ⟨bk, hbk⟩ : ∃ y : Int32, v2 - v2 / 100 * 100 = y := ⟨_, rfl⟩
  rw [hbk] at hb ⊢
  clear hbk
  have nb := cl_eq hb.1
  refine dOk_G (dg_ok hb.1 (by omega)) (dOk_L (fun v4 e4 => ?_))
  have hV4 : VP q v4 := by rw [e4]; exact hp2.2 _ (by omega)
  refine dOk_G g5 (dOk_L (fun q6 e6 => ?_))
  have x6 : q6.1 32 = q.1 32 := by rw [e6]; exact cui_o (by decide)
  refine dOk_G (by rw [(fr q6 x6).2]; exact g6) (dOk_L (fun q8 e8 => ?_))
  have x8 : q8.1 32 = q.1 32 := by rw [e8]; exact (cui_o (by decide)).trans x6
  have hB8 : BQ q8 (-1) := by
    rw [e8, e6]
    exact bq_put (by rw [nt]; exact hp2) hV4 (Or.inl (by decide))
  have hT8 : TC q8 := by rw [e8, e6]; exact sa_45 (sa_44 hT)
  have hF8 : cFr [38, 44, 45] [] q q8 := by rw [e8, e6]; exact (cFr.rf.i (by decide)).i (by decide)
  have hV8 : ∀ w : Int32, VP q w → VP q8 w := fun w hw => by rw [e8, e6]; exact vp_o rfl (vp_o rfl hw)
  refine dOk_G (by rw [(fr q8 x8).1]; exact g5) (dOk_L (fun v10 e10 => ?_))
  have ev : v10 = v4 := by rw [e10, e8, cui_o (by decide), e6, cui_e]
  have h51 : ∀ qa : dK, TC qa → cFr [38, 44, 45] [] q qa → BQ qa (-1) → VP qa p1 → dOk (zX3_putInBucket_s32_51 qa p1 bk) (fun (o : dK) => (TC o) ∧ (cFr [38, 44, 45] [] q o) ∧ (BQ o (-1))) := by
    intro qa ha hb2 hc hd
    unfold zX3_putInBucket_s32_51
    refine dOk_G (dg_ok hb.1 (by omega)) (dOk_L (fun q2 e2 => dOk_some ?_))
    refine ⟨?_, ?_, ?_⟩
    · rw [e2]; exact sa_38 ha
    · rw [e2]; exact hb2.i (by decide)
    · rw [e2]; exact bq_38 hc hd
  refine dOk_eq rfl rfl (fun _ _ => h51 q8 hT8 hF8 hB8 (hV8 _ hVt)) (fun c _ => ?_)
  refine dOk_G (by rw [(fr q8 x8).1]; exact g5) (dOk_L (fun v12 e12 => ?_))
  have ew : v12 = v4 := by rw [e12, ← e10, ev]
  rw [ev] at c
  have hV12 := hV4
  rcases hV12 with z | ⟨z0, z1, z2⟩
  · exact absurd (Int32.toInt_inj.mp (z.trans (by decide : (-1 : Int) = Int32.toInt (-1)))) c
  · have gl := (ld_ln hT hp0 z0 z1).2.2.2
    refine dOk_G (by rw [(fr q8 x8).2, ew]; exact gl) (dOk_L (fun q14 e14 => ?_))
    refine h51 q14 (by rw [e14]; exact sa_45 hT8) (by rw [e14]; exact hF8.i (by decide)) (by rw [e14]; exact bq_45 hB8 (hV8 _ hVt)) (by rw [e14]; exact vp_o rfl (hV8 _ hVt))
theorem ok_X3_takeFromBucket_s32 (q : dK) (p1 : Int32) (hT : TC q) (hp0 : LD q) (hp1 : TW q p1) (hp2 : BQ q (-1)) : dOk (zX3_takeFromBucket_s32 q p1) (fun (o : dK) => (TC o) ∧ (cFr [38, 44, 45] [] q o) ∧ (BQ o (-1))) := by
  obtain ⟨t0, t1, t2⟩ := hp1
  have hVt : VP q p1 := Or.inr ⟨t0, t1, t2⟩
  have nt := cl_eq t0
  have h50 : ∀ qa : dK, TC qa → qa.1 32 = q.1 32 → qa.1 43 = q.1 43 → cFr [38, 44, 45] [] q qa → BQ qa (-1) → dOk (zX3_takeFromBucket_s32_50 qa p1) (fun (o : dK) => (TC o) ∧ (cFr [38, 44, 45] [] q o) ∧ (BQ o (-1))) := by
    intro qa ha a32 a43 hF hB
    have hLa : LD qa := ld_eq hp0 (fun k _ => by rw [a32])
    have s1 : Int32.toInt p1 < Int32.toInt (qa.1 32 14) := by rw [a32]; exact t1
    obtain ⟨g3, g4, g5, g6⟩ := ld_ln ha hLa t0 s1
    have bt := (hB.1 (Int32.toNatClampNeg p1) (by omega)).2.2 (by omega) (by rw [a43]; exact t2)
    unfold zX3_takeFromBucket_s32_50 zX3_takeFromBucket_s32_77
    refine dOk_G g5 (dOk_L (fun v2 e2 => ?_))
    refine dOk_eq rfl rfl (fun _ _ => dOk_some ⟨ha, hF, hB⟩) (fun c _ => ?_)
    refine dOk_G g5 (dOk_L (fun v4 e4 => dOk_G g6 (dOk_L (fun v6 e6 => ?_))))
    have hV4 : VP qa v4 := by rw [e4]; exact bt.1
    have hV6 : VP qa v6 := by rw [e6]; exact bt.2
    rcases hV4 with z | ⟨z0, z1, z2⟩
    · rw [e2, ← e4] at c
      exact absurd (Int32.toInt_inj.mp (z.trans (by decide : (-1 : Int) = Int32.toInt (-1)))) c
    · refine dOk_G (ld_ln ha hLa z0 z1).2.2.2 (dOk_L (fun q8 e8 => dOk_some ⟨?_, ?_, ?_⟩))
      · rw [e8]; exact sa_45 ha
      · rw [e8]; exact hF.i (by decide)
      · rw [e8]; exact bq_45 hB hV6
  obtain ⟨g3, g4, g5, g6⟩ := ld_ln hT hp0 t0 t1
  have b0 := hp2.1 (Int32.toNatClampNeg p1) (by omega)
  have bt := b0.2.2 (by omega) t2
  unfold zX3_takeFromBucket_s32
  refine dOk_G g6 (dOk_L (fun v2 e2 => ?_))
  refine dOk_eq rfl rfl (fun _ _ => ?_) (fun c _ => ?_)
  · refine dOk_G g4 (dOk_L (fun v10 e10 => dOk_G g5 (dOk_L (fun v12 e12 => ?_))))
    have hb := bk_r (x := v10) (by rw [e10]; exact b0.1)
    have hV : VP q v12 := by rw [e12]; exact bt.1
    refine dOk_G (dg_ok hb.1 hb.2) (dOk_L (fun q14 e14 => ?_))
    exact h50 q14 (by rw [e14]; exact sa_38 hT) (by rw [e14]; exact cui_o (by decide)) (by rw [e14]; exact cui_o (by decide)) (by rw [e14]; exact cFr.rf.i (by decide)) (by rw [e14]; exact bq_38 hp2 hV)
  · refine dOk_G g6 (dOk_L (fun v4 e4 => dOk_G g5 (dOk_L (fun v6 e6 => ?_))))
    have hV4 : VP q v4 := by rw [e4]; exact bt.2
    have hV6 : VP q v6 := by rw [e6]; exact bt.1
    rcases hV4 with z | ⟨z0, z1, z2⟩
    · rw [e2, ← e4] at c
      exact absurd (Int32.toInt_inj.mp (z.trans (by decide : (-1 : Int) = Int32.toInt (-1)))) c
    · refine dOk_G (ld_ln hT hp0 z0 z1).2.2.1 (dOk_L (fun q8 e8 => ?_))
      exact h50 q8 (by rw [e8]; exact sa_44 hT) (by rw [e8]; exact cui_o (by decide)) (by rw [e8]; exact cui_o (by decide)) (by rw [e8]; exact cFr.rf.i (by decide)) (by rw [e8]; exact bq_44 hp2 hV6)
theorem ok_X3_offerTurns_s32 (q : dK) (p1 : Int32) (hT : TC q) (hp0 : LD q) (hp1 : TW q p1) (hp2 : BQ q (-1)) : dOk (zX3_offerTurns_s32 q p1) (fun (o : Int32 × dK) => (TC o.2) ∧ (cFr [38, 43, 44, 45] [] q o.2) ∧ (BQ o.2 (-1))) := by
  have sz := ld_sz hp0
  have hd32 : ∀ qa : dK, cFr [38, 43, 44, 45] [] q qa → LD qa ∧ qa.1 32 14 = q.1 32 14 ∧ qa.1 32 13 = q.1 32 13 := fun qa hF => ⟨ld_fr hp0 hF rfl, hF.1 32 14 (by decide) (by decide), hF.1 32 13 (by decide) (by decide)⟩
  unfold zX3_offerTurns_s32 zX3_offerTurns_s32_4
  refine dFix_ok (fun (a : dK × Int32 × Int32 × Int32) => TC a.1 ∧ cFr [38, 43, 44, 45] [] q a.1 ∧ a.2.1 = p1 ∧ 1 ≤ a.2.2.2.toInt ∧ a.2.2.2.toInt ≤ 7 ∧ BQ a.1 (-1) ∧ ¬ Int32.toInt (a.1.1 43 (Int32.toNatClampNeg p1)) = 2000000000) (fun (a : dK × Int32 × Int32 × Int32) => (7 - a.2.2.2.toInt).toNat) ?_ _ ⟨hT, cFr.rf, rfl, by show 1 ≤ Int32.toInt 1; decide, by show Int32.toInt 1 ≤ 7; decide, hp2, hp1.2.2⟩ _ (dF_gt (by show (7 - Int32.toInt 1).toNat < 1000000000000; decide))
  intro a ha k4 hk4
  obtain ⟨qa, x1, x2, x3⟩ := a
  obtain ⟨a0, a1, a2, a3, a4, a5, a6⟩ := ha
  replace a0 : TC qa := a0
  replace a1 : cFr [38, 43, 44, 45] [] q qa := a1
  replace a2 : p1 = x1 := Eq.symm a2
  replace a3 : 1 ≤ x3.toInt := a3
  replace a4 : x3.toInt ≤ 7 := a4
  replace a5 : BQ qa (-1) := a5
  replace a6 : ¬ Int32.toInt (qa.1 43 (Int32.toNatClampNeg p1)) = 2000000000 := a6
  subst a2
  obtain ⟨hLa, u14, u13⟩ := hd32 qa a1
  have t0 := hp1.1
  have t1 : Int32.toInt p1 < Int32.toInt (qa.1 32 14) := by rw [u14]; exact hp1.2.1
  have nt := cl_eq t0
  have t3 : x3.toInt ≤ 6 → Int32.toInt (x3 + 1) = x3.toInt + 1 := fun z => ti_add rfl (by decide) (by omega) (by omega)
  show dOk (zX3_offerTurns_s32_4b (fun q x1 x2 x3 => k4 (q, x1, x2, x3)) qa p1 x2 x3) _
  unfold zX3_offerTurns_s32_4b zX3_offerTurns_s32_105
  refine dOk_lt rfl rfl (fun c => dOk_some ⟨a0, a1, a5⟩) (fun c => ?_)
  rw [u13] at c
  have step : ∀ (qb : dK) (y2 : Int32), TC qb → cFr [38, 43, 44, 45] [] q qb → BQ qb (-1) → ¬ Int32.toInt (qb.1 43 (Int32.toNatClampNeg p1)) = 2000000000 → dOk (k4 (qb, p1, y2, x3 + 1)) (fun (o : Int32 × dK) => (TC o.2) ∧ (cFr [38, 43, 44, 45] [] q o.2) ∧ (BQ o.2 (-1))) := fun qb y2 h1 h2 h3 h4 => hk4 (qb, p1, y2, x3 + 1) ⟨h1, h2, rfl, by show 1 ≤ Int32.toInt (x3 + 1); rw [t3 (by omega)]; omega, by show Int32.toInt (x3 + 1) ≤ 7; rw [t3 (by omega)]; omega, h3, h4⟩ (by show (7 - Int32.toInt (x3 + 1)).toNat < (7 - Int32.toInt x3).toNat; rw [t3 (by omega)]; omega)
  refine dOk_B (ok_X3_turned_s32 qa p1 x3 a0 hLa t0 t1) (fun r1 q3 h3 => ?_)
  obtain ⟨h30, h31, h32⟩ := h3
  replace h30 : qa = q3 := Eq.symm h30
  replace h31 : 0 ≤ Int32.toInt r1 := h31
  replace h32 : Int32.toInt r1 < Int32.toInt (qa.1 32 14) := h32
  subst h30
  refine dOk_B (ok_X3_caseOf_s32 qa p1 x3 a0 hLa t0 t1 a3 (by rw [u13]; exact c)) (fun r4 q6 h6 => ?_)
  obtain ⟨h60, h61, h62⟩ := h6
  replace h60 : qa = q6 := Eq.symm h60
  replace h61 : 0 ≤ Int32.toInt r4 := h61
  replace h62 : Int32.toInt r4 < 504 := h62
  subst h60
  have nr := cl_eq h31
  obtain ⟨-, g4, -, -⟩ := ld_ln a0 hLa t0 t1
  obtain ⟨-, w4, -, -⟩ := ld_ln a0 hLa h31 h32
  have bp := a5.1 (Int32.toNatClampNeg p1) (by omega)
  have br := a5.1 (Int32.toNatClampNeg r1) (by omega)
  refine dOk_G g4 (dOk_L (fun v8 e8 => dOk_G (dg_ok h61 h62) (dOk_L (fun v10 e10 => dOk_G (dg_ok h61 h62) (dOk_L (fun v12 e12 => ?_))))))
  have m8 : 0 ≤ Int32.toInt v8 ∧ Int32.toInt v8 < 2000000000 := by rw [e8]; omega
  have m10 : 0 ≤ Int32.toInt v10 ∧ Int32.toInt v10 ≤ 99 := by rw [e10]; exact rg_36 a0 _
  have ts : Int32.toInt (v8 + v10) = v8.toInt + v10.toInt := ti_add rfl rfl (by omega) (by omega)
  obtain ⟨sm, hsm⟩ : ∃ y : Int32, v8 + v10 = y := ⟨_, rfl⟩
  rw [hsm] at ts ⊢
  clear hsm
  have h90 : ∀ (qb : dK) (y2 : Int32), TC qb → cFr [38, 43, 44, 45] [] q qb → BQ qb (-1) → qb.1 43 = qa.1 43 → Int32.toInt sm < 2000000000 → dOk (zX3_offerTurns_s32_90 (fun q x1 x2 x3 => k4 (q, x1, x2, x3)) qb p1 y2 x3 r1 sm) (fun (o : Int32 × dK) => (TC o.2) ∧ (cFr [38, 43, 44, 45] [] q o.2) ∧ (BQ o.2 (-1))) := by
    intro qb y2 b0 b1 b2 b43 b3
    obtain ⟨hLb, v14, v13⟩ := hd32 qb b1
    have s1 : Int32.toInt r1 < Int32.toInt (qb.1 32 14) := by rw [v14, ← u14]; exact h32
    unfold zX3_offerTurns_s32_90 zX3_offerTurns_s32_105
    refine dOk_G (ld_ln b0 hLb h31 s1).2.1 (dOk_L (fun q2 e2 => ?_))
    have hF2 : cFr [38, 43, 44, 45] [] q q2 := by rw [e2]; exact b1.i (by decide)
    obtain ⟨hL2, w14, w13⟩ := hd32 q2 hF2
    have hm : ∀ i : Nat, ¬ Int32.toInt (qb.1 43 i) = 2000000000 → ¬ Int32.toInt (q2.1 43 i) = 2000000000 := by
      intro i hi
      rw [e2]
      by_cases cc : i = Int32.toNatClampNeg r1
      · rw [cc, cui_e]; omega
      · rw [cui_n cc]; exact hi
    refine dOk_V (ok_X3_putInBucket_s32 q2 r1 (by rw [e2]; exact sa_43 b0) hL2 ⟨h31, by rw [w14, ← u14]; exact h32, by rw [e2, cui_e]; omega⟩ (by rw [e2, ← nr]; exact bq_43 b2 (by omega) b3)) (fun q5 h5 => ?_)
    obtain ⟨h50, h51, h52⟩ := h5
    have h53 : q5.1 43 = q2.1 43 := h51.row 43 (by decide) (by decide)
    exact step q5 y2 h50 (hF2.t h51 (by decide) (by decide)) h52 (by rw [h53]; exact hm _ (by rw [b43]; exact a6))
  refine dOk_eq rfl rfl (fun _ _ => ?_) (fun _ _ => step qa x2 a0 a1 a5 a6)
  refine dOk_G w4 (dOk_L (fun v14 e14 => ?_))
  refine dOk_le rfl rfl (fun _ => step qa x2 a0 a1 a5 a6) (fun c2 => ?_)
  have m14 : Int32.toInt v14 ≤ 2000000000 := by rw [e14]; exact br.2.1
  refine dOk_G w4 (dOk_L (fun v16 e16 => ?_))
  refine dOk_eq rfl (by decide : Int32.toInt 2000000000 = 2000000000) (fun _ _ => h90 qa (x2 + 1) a0 a1 a5 rfl (by omega)) (fun _ c3 => ?_)
  rw [e16] at c3
  refine dOk_V (ok_X3_takeFromBucket_s32 qa r1 a0 hLa ⟨h31, h32, c3⟩ a5) (fun q19 h19 => ?_)
  obtain ⟨k0, k1, k2⟩ := h19
  exact h90 q19 x2 k0 (a1.t k1 (by decide) (by decide)) k2 (k1.row 43 (by decide) (by decide)) (by omega)
theorem ok_X3_leastPaid_s32_s20 (q : dK) (p2 : Int32) (hT : TC q) (hp0 : LD q) (hp1 : 0 ≤ Int32.toInt (q.1 32 15)) (hp2 : Int32.toInt (q.1 32 15) < Int32.toInt (q.1 32 14)) : dOk (zX3_leastPaid_s32_s20 q p2) (fun (o : Int32 × dK) => (TC o.2) ∧ (cFr [19, 21, 36, 38, 43, 44, 45] [(18, 1)] q o.2)) := by
  have sz := ld_sz hp0
  unfold zX3_leastPaid_s32_s20
  refine dOk_V (ok_X3_askCases_s32_s20_c0 q p2 hT) (fun q3 h3 => ?_)
  obtain ⟨hT3, hF3⟩ := h3
  replace hT3 : TC q3 := hT3
  replace hF3 : cFr [19, 21, 36] [(18, 1)] q q3 := hF3
  refine dOk_L (fun q4 e4 => dOk_L (fun q5 e5 => ?_))
  have hT5 : TC q5 := by rw [e5, e4]; exact tc_cfi (tc_cfi hT3 (by decide)) (by decide)
  have hF5 : cFr [19, 21, 36, 38, 43, 44, 45] [(18, 1)] q q5 := by rw [e5, e4]; exact (((cFr.rf (q := q)).t hF3 (by decide) (by decide)).g (by decide)).g (by decide)
  have hL3 : LD q3 := ld_fr hp0 hF3 rfl
  have r4 := rg_32_104 hT3
  have s3 := ld_sz hL3
  have hd32 : ∀ qa : dK, cFr [19, 21, 36, 38, 43, 44, 45] [(18, 1)] q qa → LD qa ∧ qa.1 32 14 = q.1 32 14 ∧ qa.1 32 15 = q.1 32 15 := fun qa hF => ⟨ld_fr hp0 hF rfl, hF.1 32 14 (by decide) (by decide), hF.1 32 15 (by decide) (by decide)⟩
  obtain ⟨hL5, u14, u15⟩ := hd32 q5 hF5
  have m43 : ∀ i : Nat, (i : Int) < Int32.toInt (q5.1 32 14) → q5.1 43 i = 2000000000 := by
    intro i hi
    have n4 := cl_eq r4.1
    have e3 : q3.1 32 14 = q.1 32 14 := hF3.1 32 14 (by decide) (by decide)
    rw [u14, ← e3] at hi
    rw [e5, e4]
    show (if (43 : Nat) = 38 then kz_fl ((cfi q3 43 (Int32.toNatClampNeg (q3.1 32 104)) 2000000000).1 38) 100 (-1) else (if (43 : Nat) = 43 then kz_fl (q3.1 43) (Int32.toNatClampNeg (q3.1 32 104)) 2000000000 else q3.1 43)) i = 2000000000
    rw [if_neg (by decide), if_pos rfl]
    exact if_pos (by omega)
  have m38 : ∀ i : Nat, i < 100 → q5.1 38 i = -1 := by
    intro i hi
    rw [e5]
    show (if (38 : Nat) = 38 then kz_fl (q4.1 38) 100 (-1) else q4.1 38) i = -1
    rw [if_pos rfl]
    exact if_pos hi
  have hB5 : BQ q5 (-1) := by
    refine ⟨fun i hi => ?_, fun b hb => ?_⟩
    · rw [m43 i hi]
      exact ⟨by decide, by decide, fun _ z => absurd (by decide) z⟩
    · rw [m38 b hb]; exact Or.inl (by decide)
  clear e4 e5 m43 m38
  obtain ⟨st, hst⟩ : ∃ y : Int32, q5.1 32 15 = y := ⟨_, rfl⟩
  have t0 : 0 ≤ Int32.toInt st := by rw [← hst, u15]; exact hp1
  have t1 : Int32.toInt st < Int32.toInt (q5.1 32 14) := by rw [← hst, u15, u14]; exact hp2
  have nt := cl_eq t0
  rw [hst]
  refine dOk_G (ld_ln hT5 hL5 t0 t1).2.1 (dOk_L (fun q7 e7 => ?_))
  have hT7 : TC q7 := by rw [e7]; exact sa_43 hT5
  have hF7 : cFr [19, 21, 36, 38, 43, 44, 45] [(18, 1)] q q7 := by rw [e7]; exact hF5.i (by decide)
  have hB7 : BQ q7 (Int32.toInt st) := by rw [e7, ← nt]; exact bq_43 hB5 (by decide) (by decide)
  have h715 : q7.1 32 15 = st := by rw [e7, cui_o (by decide)]; exact hst
  obtain ⟨hL7, w14, w15⟩ := hd32 q7 hF7
  rw [h715]
  refine dOk_V (ok_X3_putInBucket_s32 q7 st hT7 hL7 ⟨t0, by rw [w14, ← u14]; exact t1, by rw [e7, cui_e]; decide⟩ hB7) (fun q10 h10 => ?_)
  obtain ⟨hT10, hF10, hB10⟩ := h10
  replace hT10 : TC q10 := hT10
  have hF10' : cFr [19, 21, 36, 38, 43, 44, 45] [(18, 1)] q q10 := hF7.t hF10 (by decide) (by decide)
  replace hB10 : BQ q10 (-1) := hB10
  clear e7 hB7 hB5 hF10 hT7 hF7 hT5 hF5 hL5 hL7 w14 w15 u14 u15 h715 hst t0 t1 nt
  unfold zX3_leastPaid_s32_s20_47
  refine dFix_ok (fun (a : dK × Int32 × Int32) => TC a.1 ∧ cFr [19, 21, 36, 38, 43, 44, 45] [(18, 1)] q a.1 ∧ BQ a.1 (-1) ∧ 0 ≤ a.2.2.toInt ∧ a.2.2.toInt ≤ 5000000) (fun (a : dK × Int32 × Int32) => (5000000 - a.2.2.toInt).toNat) ?_ _ ⟨hT10, hF10', hB10, by show 0 ≤ Int32.toInt 0; decide, by show Int32.toInt 0 ≤ 5000000; decide⟩ _ (dF_gt (by show (5000000 - Int32.toInt 0).toNat < 1000000000000; rw [show Int32.toInt 0 = 0 by decide]; omega))
  clear hT10 hF10' hB10
  intro a ha k47 hk47
  obtain ⟨qa, x3, x4⟩ := a
  obtain ⟨a0, a1, a2, a3, a4⟩ := ha
  replace a0 : TC qa := a0
  replace a1 : cFr [19, 21, 36, 38, 43, 44, 45] [(18, 1)] q qa := a1
  replace a2 : BQ qa (-1) := a2
  replace a3 : 0 ≤ x4.toInt := a3
  replace a4 : x4.toInt ≤ 5000000 := a4
  obtain ⟨hLa, u14, u15⟩ := hd32 qa a1
  have sa := ld_sz hLa
  have t99 : Int32.toInt (99 * (qa.1 32 14) : Int32) = 99 * Int32.toInt (qa.1 32 14) := ti_mul (by decide) rfl (by omega) (by omega)
  have t4 : Int32.toInt (x4 + 1) = x4.toInt + 1 := ti_add rfl (by decide) (by omega) (by omega)
  show dOk (zX3_leastPaid_s32_s20_47b (fun q x3 x4 => k47 (q, x3, x4)) qa x3 x4) _
  unfold zX3_leastPaid_s32_s20_47b zX3_leastPaid_s32_s20_143
  refine dOk_lt t99 rfl (fun _ => dOk_some ⟨a0, a1⟩) (fun c => ?_)
  refine dOk_le rfl rfl (fun _ => dOk_some ⟨a0, a1⟩) (fun _ => ?_)
  have hb := bk_r a3
  obtain ⟨bk, hbk⟩ : ∃ y : Int32, x4 - x4 / 100 * 100 = y := ⟨_, rfl⟩
  rw [hbk] at hb ⊢
  clear hbk t99
  have nb := cl_eq hb.1
  have c4 : x4.toInt < 5000000 := by omega
  unfold zX3_leastPaid_s32_s20_73
  refine dFix_ok (fun (a : dK × Int32 × Int32 × Int32 × Int32) => TC a.1 ∧ cFr [19, 21, 36, 38, 43, 44, 45] [(18, 1)] q a.1 ∧ BQ a.1 (-1) ∧ a.2.2.1 = x4 ∧ a.2.2.2.1 = bk ∧ 0 ≤ a.2.2.2.2.toInt ∧ a.2.2.2.2.toInt ≤ 50000) (fun (a : dK × Int32 × Int32 × Int32 × Int32) => (50000 - a.2.2.2.2.toInt).toNat) ?_ _ ⟨a0, a1, a2, rfl, rfl, by show 0 ≤ Int32.toInt 0; decide, by show Int32.toInt 0 ≤ 50000; decide⟩ _ (dF_gt (by show (50000 - Int32.toInt 0).toNat < 1000000000000; rw [show Int32.toInt 0 = 0 by decide]; omega))
  clear a0 a1 a2 hLa u14 u15 sa c
  intro a ha k73 hk73
  obtain ⟨qb, y3, y4, y5, x6⟩ := a
  obtain ⟨b0, b1, b2, b3, b4, b5, b6⟩ := ha
  replace b0 : TC qb := b0
  replace b1 : cFr [19, 21, 36, 38, 43, 44, 45] [(18, 1)] q qb := b1
  replace b2 : BQ qb (-1) := b2
  replace b3 : x4 = y4 := Eq.symm b3
  replace b4 : bk = y5 := Eq.symm b4
  replace b5 : 0 ≤ x6.toInt := b5
  replace b6 : x6.toInt ≤ 50000 := b6
  subst b3 b4
  obtain ⟨hLb, u14, u15⟩ := hd32 qb b1
  have sb := ld_sz hLb
  have h137 : ∀ (qc : dK) (z3 : Int32), TC qc → cFr [19, 21, 36, 38, 43, 44, 45] [(18, 1)] q qc → BQ qc (-1) → dOk (k47 (qc, z3, x4 + 1)) (fun (o : Int32 × dK) => (TC o.2) ∧ (cFr [19, 21, 36, 38, 43, 44, 45] [(18, 1)] q o.2)) := fun qc z3 h1 h2 h3 => hk47 (qc, z3, x4 + 1) ⟨h1, h2, h3, by show 0 ≤ Int32.toInt (x4 + 1); omega, by show Int32.toInt (x4 + 1) ≤ 5000000; omega⟩ (by show (5000000 - Int32.toInt (x4 + 1)).toNat < (5000000 - Int32.toInt x4).toNat; omega)
  show dOk (zX3_leastPaid_s32_s20_73b (fun q x3 x4 => k47 (q, x3, x4)) (fun q x3 x4 x5 x6 => k73 (q, x3, x4, x5, x6)) qb y3 x4 bk x6) _
  unfold zX3_leastPaid_s32_s20_73b zX3_leastPaid_s32_s20_137
  refine dOk_le rfl rfl (fun _ => h137 qb y3 b0 b1 b2) (fun c6 => ?_)
  have t6 : Int32.toInt (x6 + 1) = x6.toInt + 1 := ti_add rfl (by decide) (by omega) (by omega)
  refine dOk_G (dg_ok hb.1 hb.2) (dOk_L (fun v2 e2 => ?_))
  refine dOk_eq rfl rfl (fun _ _ => h137 qb y3 b0 b1 b2) (fun c2 _ => ?_)
  refine dOk_G (dg_ok hb.1 hb.2) (dOk_L (fun v4 e4 => ?_))
  have hV4 : VP qb v4 := by rw [e4]; exact b2.2 _ (by omega)
  rcases hV4 with z | hV4
  · rw [e2, ← e4] at c2
    exact absurd (Int32.toInt_inj.mp (z.trans (by decide : (-1 : Int) = Int32.toInt (-1)))) c2
  refine dOk_V (ok_X3_takeFromBucket_s32 qb v4 b0 hLb hV4 b2) (fun q7 h7 => ?_)
  obtain ⟨hT7, hF7, hB7⟩ := h7
  replace hT7 : TC q7 := hT7
  have w43 : q7.1 43 = qb.1 43 := hF7.row 43 (by decide) (by decide)
  have w14 : q7.1 32 14 = qb.1 32 14 := hF7.1 32 14 (by decide) (by decide)
  have hF7' : cFr [19, 21, 36, 38, 43, 44, 45] [(18, 1)] q q7 := b1.t hF7 (by decide) (by decide)
  refine dOk_B (ok_X3_isOrdered_s32 q7 v4 hT7) (fun r8 q10 h10 => ?_)
  obtain ⟨h100, h101⟩ := h10
  replace h100 : q7 = q10 := Eq.symm h100
  subst h100
  refine dOk_eq rfl rfl (fun _ _ => ?_) (fun _ _ => dOk_some ⟨hT7, hF7'⟩)
  refine dOk_B (ok_X3_offerTurns_s32 q7 v4 hT7 (hd32 q7 hF7').1 ⟨hV4.1, by rw [w14]; exact hV4.2.1, by rw [w43]; exact hV4.2.2⟩ hB7) (fun r11 q13 h13 => ?_)
  obtain ⟨hT13, hF13, hB13⟩ := h13
  exact hk73 (q13, y3 + (r11 - 1), x4, bk, x6 + 1) ⟨hT13, hF7'.t hF13 (by decide) (by decide), hB13, rfl, rfl, by show 0 ≤ Int32.toInt (x6 + 1); omega, by show Int32.toInt (x6 + 1) ≤ 50000; omega⟩ (by show (50000 - Int32.toInt (x6 + 1)).toNat < (50000 - Int32.toInt x6).toNat; omega)
