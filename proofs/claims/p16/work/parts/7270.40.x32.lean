/-! the whole state between two calls -/
def RG (q : dK) (q2 : dS) : Prop := RFw q q2 ∧ (∃ (N : Int) (Q : Int → Prop), HM q2 N Q) ∧ ∀ k : Nat, k < 2 → ¬ Int32.toInt (q2.1 4 k) = 0 → ∃ (N : Int) (Q : Int → Prop), IM q2 k N Q
def FRc (q o : dK) : Prop := (∀ j k : Nat, ((1 ≤ j ∧ j ≤ 7) ∨ j = 9 ∨ j = 10 ∨ j = 12 ∨ (49 ≤ j ∧ j ≤ 62)) → o.1 j k = q.1 j k) ∧ o.2.1 11 = q.2.1 11 ∧ o.2.2 = q.2.2
def FRm (q o : dS) : Prop := (∀ j k : Nat, (j = 2 ∨ j = 3 ∨ j = 4 ∨ j = 14) → o.1 j k = q.1 j k) ∧ o.1 0 32 = q.1 0 32
theorem FRc.rf {q : dK} : FRc q q := ⟨fun _ _ _ => rfl, rfl, rfl⟩
theorem FRm.rf {q : dS} : FRm q q := ⟨fun _ _ _ => rfl, rfl⟩
theorem FRc.of {S : List Nat} {F : List (Nat × Nat)} {q o : dK} (h : cFr S F q o) (hl : Lo (q.2.1 11) (q.2.1 13) o) (hd : (∀ s ∈ S, ¬ ((1 ≤ s ∧ s ≤ 7) ∨ s = 9 ∨ s = 10 ∨ s = 12 ∨ (49 ≤ s ∧ s ≤ 62))) ∧ ∀ p ∈ F, ¬ ((1 ≤ p.1 ∧ p.1 ≤ 7) ∨ p.1 = 9 ∨ p.1 = 10 ∨ p.1 = 12 ∨ (49 ≤ p.1 ∧ p.1 ≤ 62))) : FRc q o :=
  ⟨fun j k hj => h.1 j k (fun z => hd.1 j z hj) (fun z => hd.2 (j, k) z hj), hl.1, h.2⟩
theorem FRc.kp {q o : dK} (h : KP q o) (hX : o.2.2 = q.2.2) (hl : Lo (q.2.1 11) (q.2.1 13) o) : FRc q o := ⟨fun j k hj => h j k (by omega), hl.1, hX⟩
theorem FRm.of {S F : List Nat} {q o : dS} (h : dFr S F q o) (hd : (∀ s ∈ S, ¬ (s = 2 ∨ s = 3 ∨ s = 4 ∨ s = 14)) ∧ 32 ∉ F) : FRm q o :=
  ⟨fun j k hj => congrFun (h.1 j (fun z => hd.1 j z hj) (by omega)) k, h.2 32 hd.2⟩
theorem IM.r {q o : dS} {k : Nat} {N : Int} {Q : Int → Prop} (h : IM q k N Q) (e : ∀ i : Nat, o.1 3 i = q.1 3 i) : IM o k N Q := by
  have e3 : o.1 3 = q.1 3 := funext e
  unfold IM rkM at *
  rw [e3]; exact h
theorem HM.fr {q o : dS} {N : Int} {Q : Int → Prop} (h : HM q N Q) (h0 : o.1 0 32 = q.1 0 32) (h14 : ∀ k : Nat, o.1 14 k = q.1 14 k) (h2 : ∀ k : Nat, o.1 2 k = q.1 2 k) : HM o N Q := hm_33 h h0 (funext h14) (fun i _ => h2 i)
theorem RG.fr {q o : dK} {q2 o2 : dS} (h : RG q q2) (c : FRc q o) (m : FRm q2 o2) : RG o o2 := by
  obtain ⟨h1, ⟨N, Q, h2⟩, h3⟩ := h
  refine ⟨h1.fr (fun j k hj => c.1 j k (by omega)) c.2.1 (Pfx.eq c.2.2) (fun j k hj => m.1 j k (by omega)) m.2, ⟨N, Q, h2.fr m.2 (fun k => m.1 14 k (by omega)) (fun k => m.1 2 k (by omega))⟩, fun k hk hf => ?_⟩
  rw [m.1 4 k (by omega)] at hf
  obtain ⟨N', Q', h4⟩ := h3 k hk hf
  exact ⟨N', Q', h4.r (fun i => m.1 3 i (by omega))⟩
theorem RG.mk {q o : dK} {q2 o2 : dS} (h : RG q q2) (h1 : RFw o o2) (h2 : ∀ (N : Int) (Q : Int → Prop), HM q2 N Q → ∃ (N' : Int) (Q' : Int → Prop), HM o2 N' Q') (h34 : ∀ j k : Nat, (j = 3 ∨ j = 4) → o2.1 j k = q2.1 j k) : RG o o2 := by
  obtain ⟨-, ⟨N, Q, h3⟩, h4⟩ := h
  refine ⟨h1, h2 N Q h3, fun k hk hf => ?_⟩
  rw [h34 4 k (by omega)] at hf
  obtain ⟨N', Q', h5⟩ := h4 k hk hf
  exact ⟨N', Q', h5.r (fun i => h34 3 i (by omega))⟩
theorem d34 {S F : List Nat} {q o : dS} (h : dFr S F q o) (hd : 3 ∉ S ∧ 4 ∉ S) : ∀ j k : Nat, (j = 3 ∨ j = 4) → o.1 j k = q.1 j k := fun j k hj => by
  rcases hj with e | e <;> subst e
  · exact congrFun (h.1 3 hd.1 (by decide)) k
  · exact congrFun (h.1 4 hd.2 (by decide)) k
/-- a tower with nothing to undo -/
theorem HM.z {q : dS} {n : Nat} (h29 : Int32.toInt (q.1 2 29) = (n : Int)) (hn : n ≤ 6) (h32 : q.1 0 32 = 0) (hd : DJ n (fun i => Int32.toInt (q.1 2 i))) : ∃ (N : Int) (Q : Int → Prop), HM q N Q := by
  have d0 : Int32.toInt 0 = 0 := by decide
  refine ⟨(n : Int), fun r => ∃ i : Nat, (i : Int) < Int32.toInt (q.1 2 29) ∧ rkM q 2 0 i = r, ⟨h29, fun r => Iff.rfl, fun i j hi hj e => ?_⟩, by omega, by omega, by rw [h32]; omega, by rw [h32]; omega, fun i hi => ?_⟩
  · have e' : Int32.toInt (q.1 2 (0 + i)) = Int32.toInt (q.1 2 (0 + j)) := e
    rw [Nat.zero_add, Nat.zero_add] at e'
    exact hd i j (by omega) (by omega) e'
  · rw [h32, d0] at hi; omega
theorem HM.dj {q : dS} {N : Int} {Q : Int → Prop} (h : HM q N Q) {n : Nat} (h29 : Int32.toInt (q.1 2 29) = (n : Int)) : DJ n (fun i => Int32.toInt (q.1 2 i)) := by
  obtain ⟨⟨-, -, m3⟩, -⟩ := h
  exact fun x y hx hy e => m3 x y (by omega) (by omega) (by show Int32.toInt (q.1 2 (0 + x)) = Int32.toInt (q.1 2 (0 + y)); rw [Nat.zero_add, Nat.zero_add]; exact e)
theorem HM.n {q : dS} {N : Int} {Q : Int → Prop} (h : HM q N Q) : ∃ n : Nat, n ≤ 6 ∧ Int32.toInt (q.1 2 29) = (n : Int) := by
  obtain ⟨⟨m1, -, -⟩, h0, h6, -⟩ := h
  exact ⟨(Int32.toInt (q.1 2 29)).toNat, by omega, by omega⟩
theorem DJ.ad {n : Nat} {f g : Nat → Int} {v : Int} (h : DJ n f) (hv : ∀ i : Nat, i < n → ¬ f i = v) (hg : ∀ i : Nat, i < n → g i = f i) (hn : g n = v) : DJ (n + 1) g := by
  intro i j hi hj e
  by_cases ci : i = n
  · by_cases cj : j = n
    · rw [ci, cj]
    · rw [ci, hn, hg j (by omega)] at e
      exact absurd e.symm (hv j (by omega))
  · by_cases cj : j = n
    · rw [cj, hn, hg i (by omega)] at e
      exact absurd e (hv i (by omega))
    · rw [hg i (by omega), hg j (by omega)] at e
      exact h i j (by omega) (by omega) e
theorem dx_floor (q : dS) (p1 p2 : Int32) {N : Int} {Q : Int → Prop} (h : HM q N Q) : dAll (zX10_floor q p1 p2) (fun o => ∃ (N' : Int) (Q' : Int → Prop), HM o.2 N' Q') := by
  obtain ⟨n, hn, hm⟩ := h.n
  have hd := h.dj hm
  have bad : ∀ v : Int32, dAll (dB (zX10_refuses q v) (fun r1 q3 => some (r1, q3))) (fun o => ∃ (N' : Int) (Q' : Int → Prop), HM o.2 N' Q') := fun v => dA_B (lm_zX10_refuses q q v fm_rf) (fun r1 q3 f => dA_some ⟨N, Q, hm_fm f h⟩)
  unfold zX10_floor zX10_floor_14
  refine dA_V dA_tr (fun r1 _ => dA_if (fun _ => bad _) (fun _ => dA_V dA_tr (fun r3 _ => dA_if (fun _ => bad _) (fun _ => ?_))))
  refine dA_B (m_placeOf q p1 hm hn) (fun r5 q7 z => ?_)
  obtain ⟨z1, z2⟩ := z
  replace z1 : q7 = q := z1
  replace z2 : (¬ r5 = -1 ∧ ∃ i : Nat, i < n ∧ q.1 2 i = p1) ∨ (r5 = -1 ∧ ¬ ∃ i : Nat, i < n ∧ q.1 2 i = p1) := z2
  subst z1
  refine dA_if (fun c => ?_) (fun _ => bad _)
  unfold zX10_size
  show dAll (if (q7.1 2 29) = 6 then _ else _) _
  refine dA_eq (fun _ _ => bad _) (fun _ c6 => ?_)
  have d6 : Int32.toInt 6 = 6 := by decide
  refine dA_V (m_adds q7 p1 p2 hm (by omega)) (fun o hA => ?_)
  obtain ⟨a1, a2, a3, a4⟩ := hA
  show dAll (dB (zX10_settled o ((o.1 2 29) - 1 : Int32)) (fun r17 q19 => some (r17, q19))) _
  refine dA_B (m_settled o _) (fun r17 q19 s => dA_some ?_)
  obtain ⟨-, s2, s3, -⟩ := s
  replace s2 : q19.1 0 32 = 0 := s2
  replace s3 : ∀ j k : Nat, ¬ (j = 0 ∧ k = 0) → ¬ (j = 0 ∧ k = 32) → q19.1 j k = o.1 j k := s3
  have hno : ¬ ∃ i : Nat, i < n ∧ q7.1 2 i = p1 := by
    rcases z2 with z | z
    · exact absurd c z.1
    · exact z.2
  refine HM.z (n := n + 1) (by rw [s3 2 29 (by decide) (by decide), a1]; omega) (by omega) s2 (hd.ad (v := Int32.toInt p1) (fun i hi e => hno ⟨i, hi, i_eq e⟩) (fun i hi => ?_) ?_)
  · show Int32.toInt (q19.1 2 i) = Int32.toInt (q7.1 2 i)
    rw [s3 2 i (by omega) (by omega), a2 i (by omega), if_neg (by omega), if_neg (by omega)]
  · show Int32.toInt (q19.1 2 n) = _
    rw [s3 2 n (by omega) (by omega), a2 n (by omega), if_neg (by omega), if_pos rfl]
theorem rowN_d (T : Nat → Int32) (s : RwT) (hs : DJ s.1 (fun i => Int32.toInt (s.2.1 i))) : ∀ j : Nat, DJ (rowN T s j).1 (fun i => Int32.toInt ((rowN T s j).2.1 i)) := by
  intro j
  induction j with
  | zero => exact hs
  | succ j ih =>
    rw [rowN_s]
    by_cases c : rowC (rowN T s j) (T (2 * j)) (T (2 * j + 1))
    · rw [rowS_y c]
      refine DJ.ad (v := Int32.toInt (T (2 * j))) ih (fun i hi e => c.2.2.2 ⟨i, hi, i_eq e⟩) (fun i hi => ?_) ?_
      · show Int32.toInt (if i = (rowN T s j).1 then T (2 * j) else (rowN T s j).2.1 i) = _
        rw [if_neg (by omega)]
      · show Int32.toInt (if (rowN T s j).1 = (rowN T s j).1 then T (2 * j) else (rowN T s j).2.1 (rowN T s j).1) = _
        rw [if_pos rfl]
    · rw [rowS_n c]; exact ih
theorem dx_row (q : dS) (T : Nat → Int32) {L : Nat} (hL4 : L ≤ 400) (hm : Int32.toInt (q.1 0 13) = (L : Int)) (hT : ∀ i : Nat, i < L → tpR (Int32.toInt (T i)) (Int32.toInt (q.1 7 i))) {N : Int} {Q : Int → Prop} (h : HM q N Q) : dAll (zX10_row q) (fun o => ∃ (N' : Int) (Q' : Int → Prop), HM o.2 N' Q') := by
  have dd2 : Int32.toInt 2 = 2 := by decide
  obtain ⟨n, hn, h29⟩ := h.n
  have hd := h.dj h29
  unfold zX10_row
  refine dA_L (fun q1 e1 => dA_if (fun _ => dA_B (lm_zX10_refuses q1 q1 _ fm_rf) (fun r3 q5 f => dA_some ⟨N, Q, hm_fm f (by rw [e1]; exact hm_0 (by decide) h)⟩)) (fun _ => dA_L (fun q2 e2 => ?_)))
  have k2 : ∀ j k : Nat, ¬ j = 0 → q2.1 j k = q.1 j k := fun j k hj => by rw [e2, dui_o hj, e1, dui_o hj]
  have hr : Int32.toInt (q2.1 0 6) = ((L % 2 : Nat) : Int) := by
    rw [e2, dui_e, ti_rem hm dd2 (by omega) (by omega)]; omega
  have hR0 : RWm q2 q2 ((n, q2.1 2, fun k => q2.1 2 (6 + k)) : RwT) := ⟨by rw [k2 2 29 (by decide)]; exact h29, fun k hk => ⟨rfl, rfl⟩, fun _ _ _ => rfl, fun _ _ _ _ => rfl, rfl⟩
  refine dA_mono (m_row q2 (q.1 0 13) T (n, q2.1 2, fun k => q2.1 2 (6 + k)) rfl hm hL4 hn hr (fun i hi => by rw [k2 7 i (by decide)]; exact hT i hi) hR0) (fun o b => ?_)
  obtain ⟨-, -, b3, b4, -, b6, -⟩ := b
  have hb := rowN_b T (n, q2.1 2, fun k => q2.1 2 (6 + k)) hn (L / 2)
  have hdj := rowN_d T (n, q2.1 2, fun k => q2.1 2 (6 + k)) (fun i j hi hj e => hd i j hi hj (by
    have e' : Int32.toInt (q2.1 2 i) = Int32.toInt (q2.1 2 j) := e
    rw [k2 2 i (by decide), k2 2 j (by decide)] at e'
    exact e')) (L / 2)
  refine HM.z b3 hb.2.2 b6 (fun i j hi hj e => hdj i j hi hj ?_)
  have e' : Int32.toInt (o.2.1 2 i) = Int32.toInt (o.2.1 2 j) := e
  rw [(b4 i (by omega)).1, (b4 j (by omega)).1] at e'
  exact e'
/-- years: what lay aside comes back, there -/
theorem m_yearsR (q : dS) (p1 p2 : Int32) : dAll (zX10_years q p1 p2) (fun o => ∀ k : Nat, k < 14 → o.2.1 2 k = q.1 2 k) := by
  have d0 : Int32.toInt 0 = 0 := by decide
  have bad : ∀ v : Int32, dAll (dB (zX10_refuses q v) (fun r1 q3 => some (r1, q3))) (fun o => ∀ k : Nat, k < 14 → o.2.1 2 k = q.1 2 k) := fun v => dA_B (m_refuses q v) (fun r1 q3 f => dA_some (fun k _ => f.2.1 2 k (by decide) (by omega)))
  unfold zX10_years zX10_years_20 zX10_size
  refine dA_V dA_tr (fun r1 _ => dA_if (fun _ => bad _) (fun _ => dA_V dA_tr (fun r3 _ => dA_if (fun _ => bad _) (fun _ => ?_))))
  show dAll (if (q.1 2 29) = 0 then _ else _) _
  refine dA_if (fun _ => bad _) (fun _ => dA_L (fun q8 e8 => ?_))
  show dAll (dL (dui q8 0 54 (q8.1 2 29)) (fun q12 => dV (zX10_laysAside q12 0) (fun q15 => zX10_years_69 dF q15 p2 (q15.1 2 12) 0))) _
  refine dA_L (fun q12 e12 => ?_)
  have k12 : ∀ k : Nat, q12.1 2 k = q.1 2 k := fun k => by rw [e12, dui_o (by decide), e8, dui_o (by decide)]
  clear e8 e12
  refine dA_V (dm_laysAside q12 0 0 (by rw [d0]; decide) (by omega) (by omega)) (fun q15 z15 => ?_)
  obtain ⟨s15, a15⟩ := z15
  have h177 : ∀ (qb : dS) (x3 : Int32), qb.1 5 = q15.1 5 → dAll (zX10_years_177 qb x3) (fun o => ∀ k : Nat, k < 14 → o.2.1 2 k = q.1 2 k) := by
    intro qb x3 h5
    unfold zX10_years_177 zX10_years_191
    refine dA_fix (fun (a : dS × Int32 × Int32) => a.1.1 5 = q15.1 5) ?_ dF _ h5
    intro k191 hk191 a ha
    obtain ⟨qc, x4, x5⟩ := a
    replace ha : qc.1 5 = q15.1 5 := ha
    show dAll (zX10_years_191b (fun q x4 x5 => k191 (q, x4, x5)) qc x4 x5) _
    unfold zX10_years_191b
    refine dA_if (fun _ => ?_) (fun _ => dA_G (fun _ => dA_L (fun v8 _ => dA_G (fun _ => dA_L (fun q10 e10 => hk191 (q10, x4, x5 + 1) (by show q10.1 5 = _; rw [e10, dui_o (by decide)]; exact ha))))))
    refine dA_V (dm_takesBack qc 0 0 (by rw [d0]; decide) (by omega) (by omega)) (fun q3 z3 => ?_)
    obtain ⟨s3, a3, b3⟩ := z3
    refine dA_B (m_good q3 x4) (fun r4 q6 g => dA_some (fun k hk => ?_))
    have g2 : q6.1 2 k = q3.1 2 k := g.2.1 2 k (by omega)
    show q6.1 2 k = _
    rw [g2, a3 k hk, ha, a15 k hk]; exact k12 k
  unfold zX10_years_69
  refine dA_fix (fun (a : dS × Int32 × Int32 × Int32) => a.1.1 5 = q15.1 5) ?_ dF _ rfl
  intro k69 hk69 a ha
  obtain ⟨qb, x2, x3, x4⟩ := a
  replace ha : qb.1 5 = q15.1 5 := ha
  show dAll (zX10_years_69b (fun q x2 x3 x4 => k69 (q, x2, x3, x4)) qb x2 x3 x4) _
  unfold zX10_years_69b
  have h166 : ∀ qc : dS, qc.1 5 = q15.1 5 → dAll (zX10_years_166 (fun q x2 x3 x4 => k69 (q, x2, x3, x4)) qc x2 x3 x4) (fun o => ∀ k : Nat, k < 14 → o.2.1 2 k = q.1 2 k) := by
    intro qc c1
    unfold zX10_years_166
    exact dA_B (l5_zX10_yearPasses qc qc f5_rf) (fun r1 q3 z => hk69 (q3, x2, x3, x4 + 1) (z.1.trans c1))
  have h129 : ∀ (qc : dS) (x5 x6 : Int32), qc.1 5 = q15.1 5 → dAll (zX10_years_129 (fun q x2 x3 x4 => k69 (q, x2, x3, x4)) qc x2 x3 x4 x5 x6) (fun o => ∀ k : Nat, k < 14 → o.2.1 2 k = q.1 2 k) := by
    intro qc x5 x6 c1
    unfold zX10_years_129
    refine dA_if (fun _ => dA_B (l5_zX10_isPlace qc qc x5 f5_rf) (fun r1 q3 z => dA_if (fun _ => h166 q3 (z.1.trans c1)) (fun _ => dA_G (fun _ => dA_L (fun v5 _ => dA_G (fun _ => dA_L (fun q7 e7 => h166 q7 (by rw [e7, dui_o (by decide)]; exact z.1.trans c1)))))))) (fun _ => h166 qc c1)
  refine dA_if (fun _ => h177 qb x3 ha) (fun _ => dA_if (fun _ => h177 qb x3 ha) (fun _ => ?_))
  refine dA_B (l5_zX10_draws qb qb 6 f5_rf) (fun r1 q3 z3 => dA_B (l5_zX10_draws q3 q3 3 f5_rf) (fun r4 q6 z6 => ?_))
  have e6 : q6.1 5 = q15.1 5 := z6.1.trans (z3.1.trans ha)
  refine dA_if (fun _ => h129 q6 _ _ e6) (fun _ => dA_B (l5_zX10_canTurn q6 q6 _ f5_rf) (fun r7 q9 z9 => ?_))
  have e9 : q9.1 5 = q15.1 5 := z9.1.trans e6
  exact dA_if (fun _ => h129 q9 _ _ e9) (fun _ => dA_B (l5_zX10_turns q9 q9 _ f5_rf) (fun r10 q12 z => h129 q12 _ _ (z.1.trans e9)))
