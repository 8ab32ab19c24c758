/-! the tape here and there; a law read, put in force; the fault -/
def ltY (q : dK) (q2 : dS) : Prop := ∃ L : Nat, L ≤ 400 ∧ Int32.toInt (q.1 0 12) = (L : Int) ∧ Int32.toInt (q2.1 0 13) = (L : Int) ∧ ∀ i : Nat, i < L → tpR (Int32.toInt (q.1 46 i)) (Int32.toInt (q2.1 7 i))
/-- laws told, the law in force, the fault -/
def LwE (q o : dK) (q2 o2 : dS) : Prop := Int32.toInt (o.1 1 8) = Int32.toInt (o2.1 2 31) ∧ Int32.toInt (o.1 0 13) = Int32.toInt (o2.1 0 14)
theorem lj_law {q o : dK} {q2 o2 : dS} {r r2 : Int32} (hT : TC q) (hT2 : TS q2) (hL : q.2.2.length < 1000) (ht : ltY q q2) (h8 : Int32.toInt (q.1 1 8) = Int32.toInt (q2.1 2 31)) (e : zX9_law_s0 468 q = some (r, o)) (e2 : zX10_law q2 = some (r2, o2)) :
    Int32.toInt r = Int32.toInt r2 ∧ Int32.toInt (o.1 1 8) = Int32.toInt (o2.1 2 31) ∧ (Int32.toInt (q.1 0 13) = Int32.toInt (q2.1 0 14) → Int32.toInt (o.1 0 13) = Int32.toInt (o2.1 0 14)) ∧ o.1 1 9 = q.1 1 9 ∧ o2.1 2 32 = q2.1 2 32 := by
  have d6 : Int32.toInt 6 = 6 := by decide
  have d1 : Int32.toInt 1 = 1 := by decide
  have dm : Int32.toInt (-1) = -1 := by decide
  have d0 : Int32.toInt 0 = 0 := by decide
  have f18 := rg_1_8 hT
  obtain ⟨L, hL4, hc, hm, hB⟩ := ht
  have hd : d2 (zX9_law_s0 468 q) (zX10_law q2) (fun x y => Int32.toInt x.1 = Int32.toInt y.1 ∧ Int32.toInt (x.2.1 1 8) = Int32.toInt (y.2.1 2 31) ∧ (Int32.toInt (q.1 0 13) = Int32.toInt (q2.1 0 14) → Int32.toInt (x.2.1 0 13) = Int32.toInt (y.2.1 0 14)) ∧ x.2.1 1 9 = q.1 1 9 ∧ y.2.1 2 32 = q2.1 2 32) := by
    unfold zX9_law_s0 zX10_law
    refine d2_lL (fun q1 e1 => ?_)
    have hT1 : TC q1 := by rw [e1]; exact st_0_12 hT (by decide) (by decide)
    have a18 : q1.1 1 8 = q.1 1 8 := by rw [e1, cui_o (by decide)]
    have a19 : q1.1 1 9 = q.1 1 9 := by rw [e1, cui_o (by decide)]
    have a13 : q1.1 0 13 = q.1 0 13 := by rw [e1, cui_n (by decide)]
    have a46 : q1.1 46 = q.1 46 := by rw [e1, cui_o (by decide)]
    have aL : q1.2.2 = q.2.2 := by rw [e1]; rfl
    refine d2_lif (fun c => ?_) (fun c => ?_)
    · have c6 := Int32.lt_iff_toInt_lt.mp c
      rw [a18] at c6
      refine d2_rif (fun cm => by rw [cm] at h8; omega) (fun _ => ?_)
      have hread : d2 (zX4_read_s24_s46_s25 q1 (q.1 0 12) 0) (zX10_readsAs q2 0) (fun x y => RdP x y ∧ (TC x.2 ∧ cFr [26, 27, 28, 29, 30, 31] [(24, 0), (24, 1), (24, 2), (24, 3), (24, 4), (24, 5), (24, 6), (24, 7), (24, 8), (24, 9), (24, 10), (25, 6), (25, 7)] q1 x.2) ∧ TS y.2 ∧ aF q2 y.2 ∧ (y.1.toInt = 0 ∨ (y.1.toInt = 1 ∧ TxtOk false y.2))) := by
        intro x y ex ey
        refine ⟨r_read (B := fun i => Int32.toInt (q.1 46 i)) q1 q2 hT2 (q.1 0 12) 0 L hL4 hc (Or.inl rfl) (fun i => by rw [a46]) hm hB x y ex ey, ?_, ?_⟩
        · exact dA_of (ok_X4_read_s24_s46_s25 q1 (q.1 0 12) 0 hT1 (by omega) (Or.inl (by decide))) x ex
        · exact dA_of (ok_readsAs false q2 0 hT2 (by decide)) y ey
      refine d2_BB hread (fun r3 q4 r4 q3 w => ?_)
      obtain ⟨⟨w1, w2⟩, ⟨w3, w4⟩, w5, ⟨w6, w7⟩, w8⟩ := w
      replace w1 : Int32.toInt r3 = Int32.toInt (q3.1 0 14) := w1
      replace w2 : (Int32.toInt r4 = 1 ∧ Int32.toInt r3 = -1) ∨ (Int32.toInt r4 = 0 ∧ ¬ Int32.toInt r3 = -1) := w2
      replace w3 : TC q4 := w3
      replace w4 : cFr [26, 27, 28, 29, 30, 31] [(24, 0), (24, 1), (24, 2), (24, 3), (24, 4), (24, 5), (24, 6), (24, 7), (24, 8), (24, 9), (24, 10), (25, 6), (25, 7)] q1 q4 := w4
      replace w5 : TS q3 := w5
      replace w6 : dFr [9, 10, 11] [8, 9, 10, 13, 14, 18, 19, 20, 21] q2 q3 := w6
      replace w8 : r4.toInt = 0 ∨ (r4.toInt = 1 ∧ TxtOk false q3) := w8
      have m31 : q3.1 2 31 = q2.1 2 31 := by rw [w6.1 2 (by decide) (by decide)]
      have m32 : q3.1 2 32 = q2.1 2 32 := by rw [w6.1 2 (by decide) (by decide)]
      refine d2_lL (fun q5 e5 => ?_)
      have hT5 : TC q5 := by rw [e5]; exact sa_0_13 w3
      have b18 : q5.1 1 8 = q.1 1 8 := by rw [e5, cui_o (by decide), w4.1 1 8 (by decide) (by decide)]; exact a18
      have b19 : q5.1 1 9 = q.1 1 9 := by rw [e5, cui_o (by decide), w4.1 1 9 (by decide) (by decide)]; exact a19
      have b13 : q5.1 0 13 = r3 := by rw [e5, cui_e]
      have bL : q5.2.2 = q.2.2 := by rw [e5]; exact w4.2.trans aL
      refine d2_lif (fun c1 => ?_) (fun c1 => ?_)
      · have er3 : Int32.toInt r3 = -1 := by rw [← b13, c1]; exact dm
        have er4 : Int32.toInt r4 = 1 := by omega
        refine d2_rif (fun z => by rw [z] at er4; omega) (fun _ => ?_)
        have htx : TxtOk false q3 := by
          rcases w8 with z | z
          · omega
          · exact z.2
        obtain ⟨n, hn, e18, hg⟩ := htx
        obtain ⟨t, htt⟩ : ∃ t : Nat, Int32.toInt (q3.1 2 31) = (t : Int) := ⟨(Int32.toInt (q3.1 2 31)).toNat, by rw [m31]; omega⟩
        have ht5 : t ≤ 5 := by rw [m31] at htt; omega
        refine d2_lB (dA_of (ok_X7_copyOfIt_s25 468 q5 hT5 (Nat.le_refl _) (by rw [bL]; exact hL))) (fun r6 q8 h => ?_)
        obtain ⟨hr, tt, N, X, k1, k2⟩ := h
        replace N : NT q5 q8 tt := N
        refine d2_rV (dA_of (ok_lays q3 (q3.1 2 31) t n w5 htt (by omega) (by omega) e18 hn)) (fun q6 h6 => ?_)
        obtain ⟨hT6, hF6, a6, b6, c6'⟩ := h6
        have x31 : q6.1 2 31 = q3.1 2 31 := a6 31 (by decide)
        have x32 : q6.1 2 32 = q3.1 2 32 := a6 32 (by decide)
        have x14 : q6.1 0 14 = q3.1 0 14 := hF6.2 14 (by decide)
        refine d2_lG (fun _ => d2_lG (fun _ => d2_lG (fun _ => d2_lL (fun q12 e12 => d2_lL (fun q13 e13 => d2_rL (fun q7 e7 => ?_))))))
        have c18 : q12.1 1 8 = q.1 1 8 := by rw [e12, cui_o (by decide), N.1]; exact b18
        have g18 : Int32.toInt (q13.1 1 8) = Int32.toInt (q.1 1 8) + 1 := by rw [e13, cui_e, c18]; exact ti_add rfl d1 (by omega) (by omega)
        have g19 : q13.1 1 9 = q.1 1 9 := by rw [e13, cui_n (by decide), e12, cui_o (by decide), N.1]; exact b19
        have g13 : q13.1 0 13 = r3 := by rw [e13, cui_o (by decide), e12, cui_o (by decide), N.1]; exact b13
        have n31 : Int32.toInt (q7.1 2 31) = Int32.toInt (q2.1 2 31) + 1 := by rw [e7, dui_e, x31, m31]; exact ti_add rfl d1 (by omega) (by omega)
        have n32 : q7.1 2 32 = q2.1 2 32 := by rw [e7, dui_n (by decide), x32, m32]
        have n14 : q7.1 0 14 = q3.1 0 14 := by rw [e7, dui_o (by decide), x14]
        have ha : dAll (dB (zX9_accept_s0 q13 ((q13.1 1 8) - 1 : Int32)) (fun r14 q16 => some (r14, q16))) (fun x => Int32.toInt x.1 = Int32.toInt (q.1 1 8) ∧ x.2.1 1 8 = q13.1 1 8 ∧ x.2.1 1 9 = q13.1 1 9 ∧ x.2.1 0 13 = q13.1 0 13) := by
          unfold zX9_accept_s0
          refine dA_B (R := fun x => x.1 = ((q13.1 1 8) - 1 : Int32) ∧ x.2 = cui q13 0 18 0) (dA_L (fun qq eq => dA_some ⟨rfl, eq⟩)) (fun ra qa y => dA_some ?_)
          obtain ⟨y1, y2⟩ := y
          replace y1 : ra = ((q13.1 1 8) - 1 : Int32) := y1
          replace y2 : qa = cui q13 0 18 0 := y2
          refine ⟨?_, ?_, ?_, ?_⟩
          · show Int32.toInt ra = _
            rw [y1, ti_sub g18 d1 (by omega) (by omega)]; omega
          · show qa.1 1 8 = _
            rw [y2, cui_o (by decide)]
          · show qa.1 1 9 = _
            rw [y2, cui_o (by decide)]
          · show qa.1 0 13 = _
            rw [y2, cui_n (by decide)]
        have hb : dAll (dB (zX10_good q7 ((q7.1 2 31) - 1 : Int32)) (fun r8 q10 => some (r8, q10))) (fun x => Int32.toInt x.1 = Int32.toInt (q2.1 2 31) ∧ x.2.1 2 31 = q7.1 2 31 ∧ x.2.1 2 32 = q7.1 2 32 ∧ x.2.1 0 14 = q7.1 0 14) := by
          unfold zX10_good
          refine dA_B (R := fun x => x.1 = ((q7.1 2 31) - 1 : Int32) ∧ x.2 = dui q7 0 0 0) (dA_L (fun qq eq => dA_some ⟨rfl, eq⟩)) (fun ra qa y => dA_some ?_)
          obtain ⟨y1, y2⟩ := y
          replace y1 : ra = ((q7.1 2 31) - 1 : Int32) := y1
          replace y2 : qa = dui q7 0 0 0 := y2
          refine ⟨?_, ?_, ?_, ?_⟩
          · show Int32.toInt ra = _
            rw [y1, ti_sub n31 d1 (by omega) (by omega)]; omega
          · show qa.1 2 31 = _
            rw [y2, dui_o (by decide)]
          · show qa.1 2 32 = _
            rw [y2, dui_o (by decide)]
          · show qa.1 0 14 = _
            rw [y2, dui_n (by decide)]
        refine d2_of ha hb (fun x y hx hy => ⟨by rw [hx.1, hy.1]; exact h8, by rw [hx.2.1, hy.2.1, g18, n31, h8], fun _ => by rw [hx.2.2.2, hy.2.2.2, g13, n14]; exact w1, by rw [hx.2.2.1]; exact g19, by rw [hy.2.2.1]; exact n32⟩)
      · have er4 : Int32.toInt r4 = 0 := by
          rcases w2 with z | z
          · exact absurd (Int32.toInt_inj.mp ((by rw [b13]; exact z.2 : Int32.toInt (q5.1 0 13) = -1).trans dm.symm)) c1
          · exact z.1
        refine d2_rif (fun _ => ?_) (fun z => absurd (Int32.toInt_inj.mp (er4.trans d0.symm)) z)
        have ha : dAll (dB (zX9_refuse_s0 q5 (-6)) (fun r17 q19 => some (r17, q19))) (fun x => Int32.toInt x.1 = Int32.toInt (-6) ∧ x.2.1 1 8 = q5.1 1 8 ∧ x.2.1 1 9 = q5.1 1 9 ∧ x.2.1 0 13 = q5.1 0 13) := by
          refine dA_B (dA_of (ok_X9_refuse_s0 q5 (-6) hT5)) (fun ra qa y => dA_some ?_)
          obtain ⟨-, y2, y3⟩ := y
          replace y2 : cFr [48] [(0, 18)] q5 qa := y2
          exact ⟨y3, y2.1 1 8 (by decide) (by decide), y2.1 1 9 (by decide) (by decide), y2.1 0 13 (by decide) (by decide)⟩
        have hb : dAll (dB (zX10_refuses q3 (-6)) (fun r11 q13 => some (r11, q13))) (fun x => Int32.toInt x.1 = Int32.toInt (-6) ∧ x.2.1 2 31 = q3.1 2 31 ∧ x.2.1 2 32 = q3.1 2 32 ∧ x.2.1 0 14 = q3.1 0 14) := by
          refine dA_B (dA_of (ok_refuses q3 (-6) w5 (by decide) (by decide))) (fun ra qa y => dA_some ?_)
          obtain ⟨-, y2, y3⟩ := y
          replace y2 : dFr [1] [0] q3 qa := y2
          have z2 := y2.1 2 (by decide) (by decide)
          exact ⟨y3, congrFun z2 31, congrFun z2 32, y2.2 14 (by decide)⟩
        exact d2_of ha hb (fun x y hx hy => ⟨by rw [hx.1, hy.1], by rw [hx.2.1, hy.2.1, b18, m31]; exact h8, fun _ => by rw [hx.2.2.2, hy.2.2.2, b13]; exact w1, by rw [hx.2.2.1]; exact b19, by rw [hy.2.2.1]; exact m32⟩)
    · have c6 : ¬ Int32.toInt (q.1 1 8) < 6 := fun z => c (Int32.lt_iff_toInt_lt.mpr (by rw [a18]; omega))
      refine d2_rif (fun _ => d2_rL (fun q14 e14 => ?_)) (fun cm => absurd (Int32.toInt_inj.mp (show Int32.toInt (q2.1 2 31) = Int32.toInt 6 by omega)) cm)
      have hT14 : TS q14 := by rw [e14]; exact ts_f hT2 (by decide) (by decide)
      have ha : dAll (dB (zX9_refuse_s0 q1 (-5)) (fun r20 q22 => some (r20, q22))) (fun x => Int32.toInt x.1 = Int32.toInt (-5) ∧ x.2.1 1 8 = q1.1 1 8 ∧ x.2.1 1 9 = q1.1 1 9 ∧ x.2.1 0 13 = q1.1 0 13) := by
        refine dA_B (dA_of (ok_X9_refuse_s0 q1 (-5) hT1)) (fun ra qa y => dA_some ?_)
        obtain ⟨-, y2, y3⟩ := y
        replace y2 : cFr [48] [(0, 18)] q1 qa := y2
        exact ⟨y3, y2.1 1 8 (by decide) (by decide), y2.1 1 9 (by decide) (by decide), y2.1 0 13 (by decide) (by decide)⟩
      have hb : dAll (dB (zX10_refuses q14 (-5)) (fun r15 q17 => some (r15, q17))) (fun x => Int32.toInt x.1 = Int32.toInt (-5) ∧ x.2.1 2 31 = q14.1 2 31 ∧ x.2.1 2 32 = q14.1 2 32 ∧ x.2.1 0 14 = q14.1 0 14) := by
        refine dA_B (dA_of (ok_refuses q14 (-5) hT14 (by decide) (by decide))) (fun ra qa y => dA_some ?_)
        obtain ⟨-, y2, y3⟩ := y
        replace y2 : dFr [1] [0] q14 qa := y2
        have z2 := y2.1 2 (by decide) (by decide)
        exact ⟨y3, congrFun z2 31, congrFun z2 32, y2.2 14 (by decide)⟩
      have y31 : q14.1 2 31 = q2.1 2 31 := by rw [e14, dui_o (by decide)]
      have y32 : q14.1 2 32 = q2.1 2 32 := by rw [e14, dui_o (by decide)]
      have y14 : q14.1 0 14 = q2.1 0 14 := by rw [e14, dui_n (by decide)]
      exact d2_of ha hb (fun x y hx hy => ⟨by rw [hx.1, hy.1], by rw [hx.2.1, hy.2.1, a18, y31]; exact h8, fun h14 => by rw [hx.2.2.2, hy.2.2.2, a13, y14]; exact h14, by rw [hx.2.2.1]; exact a19, by rw [hy.2.2.1]; exact y32⟩)
  exact hd (r, o) (r2, o2) e e2
/-- the law in force -/
theorem ok2_X9_force (q : dK) (p1 : Int32) : dAll (zX9_force_s0 q p1) (fun o => (-1 ≤ Int32.toInt p1 ∧ Int32.toInt p1 < Int32.toInt (q.1 1 8) ∨ Int32.toInt p1 = -1) ∧ Int32.toInt o.1 = Int32.toInt (q.1 1 9) ∧ Int32.toInt (o.2.1 1 9) = Int32.toInt p1 ∨ ¬ (-1 ≤ Int32.toInt p1 ∧ Int32.toInt p1 < Int32.toInt (q.1 1 8) ∨ Int32.toInt p1 = -1) ∧ Int32.toInt o.1 = -2 ∧ Int32.toInt (o.2.1 1 9) = Int32.toInt (q.1 1 9)) := by
  have d0 : Int32.toInt 0 = 0 := by decide
  have d1 : Int32.toInt 1 = 1 := by decide
  have dm : Int32.toInt (-1) = -1 := by decide
  have h23 : (-1 ≤ Int32.toInt p1 ∧ Int32.toInt p1 < Int32.toInt (q.1 1 8) ∨ Int32.toInt p1 = -1) → dAll (zX9_force_s0_23 q p1) (fun o => (-1 ≤ Int32.toInt p1 ∧ Int32.toInt p1 < Int32.toInt (q.1 1 8) ∨ Int32.toInt p1 = -1) ∧ Int32.toInt o.1 = Int32.toInt (q.1 1 9) ∧ Int32.toInt (o.2.1 1 9) = Int32.toInt p1 ∨ ¬ (-1 ≤ Int32.toInt p1 ∧ Int32.toInt p1 < Int32.toInt (q.1 1 8) ∨ Int32.toInt p1 = -1) ∧ Int32.toInt o.1 = -2 ∧ Int32.toInt (o.2.1 1 9) = Int32.toInt (q.1 1 9)) := by
    intro hv
    unfold zX9_force_s0_23 zX9_accept_s0
    refine dA_L (fun q1 e1 => dA_B (R := fun x => x.1 = q.1 1 9 ∧ x.2 = cui q1 0 18 0) (dA_L (fun qq eq => dA_some ⟨rfl, eq⟩)) (fun ra qa y => dA_some (Or.inl ⟨hv, ?_, ?_⟩)))
    · exact congrArg Int32.toInt y.1
    · show Int32.toInt (qa.1 1 9) = _
      have y2 : qa = cui q1 0 18 0 := y.2
      rw [y2, cui_o (by decide), e1, cui_e]
  unfold zX9_force_s0
  refine dA_eq (fun _ c => h23 (Or.inr (c.trans dm))) (fun _ c => ?_)
  have hl : dAll (zX6_isLaw_s1 q p1) (fun o => o.2 = q ∧ ((Int32.toInt o.1 = 1 ∧ 0 ≤ Int32.toInt p1 ∧ Int32.toInt p1 < Int32.toInt (q.1 1 8)) ∨ (Int32.toInt o.1 = 0 ∧ ¬ (0 ≤ Int32.toInt p1 ∧ Int32.toInt p1 < Int32.toInt (q.1 1 8))))) := by
    unfold zX6_isLaw_s1 zX6_isLaw_s1_16 zX6_isLaw_s1_17
    exact dA_lt (fun c => dA_G (fun _ => dA_some ⟨rfl, Or.inr ⟨d0, by omega⟩⟩)) (fun c => dA_le (fun c2 => dA_G (fun _ => dA_some ⟨rfl, Or.inr ⟨d0, by omega⟩⟩)) (fun c2 => dA_G (fun _ => dA_some ⟨rfl, Or.inl ⟨d1, by omega, by omega⟩⟩)))
  refine dA_B hl (fun r1 q3 z => ?_)
  obtain ⟨z1, z2⟩ := z
  replace z1 : q3 = q := z1
  replace z2 : (Int32.toInt r1 = 1 ∧ 0 ≤ Int32.toInt p1 ∧ Int32.toInt p1 < Int32.toInt (q.1 1 8)) ∨ (Int32.toInt r1 = 0 ∧ ¬ (0 ≤ Int32.toInt p1 ∧ Int32.toInt p1 < Int32.toInt (q.1 1 8))) := z2
  subst z1
  refine dA_eq (fun _ c1 => ?_) (fun _ c1 => h23 (by omega))
  have hr : dAll (zX9_refuse_s0 q3 (-2)) (fun x => Int32.toInt x.1 = -2 ∧ x.2.1 1 9 = q3.1 1 9) := by
    unfold zX9_refuse_s0 zX9_refuse_s0_26
    refine dA_L (fun q1 e1 => dA_if (fun c => absurd c (by decide)) (fun _ => dA_if (fun c => absurd c (by decide)) (fun _ => dA_G (fun _ => dA_L (fun v3 _ => dA_G (fun _ => dA_L (fun q5 e5 => dA_some ⟨(by decide : Int32.toInt (-2) = -2), ?_⟩)))))))
    show q5.1 1 9 = _
    rw [e5, cui_o (by decide), e1, cui_o (by decide)]
  refine dA_B hr (fun ra qa y => dA_some (Or.inr ⟨by omega, y.1, ?_⟩))
  show Int32.toInt (qa.1 1 9) = _
  have y2 : qa.1 1 9 = q3.1 1 9 := y.2
  rw [y2]
theorem ok2_X10_force (q : dS) (p1 : Int32) (h31 : 0 ≤ Int32.toInt (q.1 2 31)) : dAll (zX10_force q p1) (fun o => (-1 ≤ Int32.toInt p1 ∧ Int32.toInt p1 < Int32.toInt (q.1 2 31) ∨ Int32.toInt p1 = -1) ∧ Int32.toInt o.1 = Int32.toInt (q.1 2 32) ∧ Int32.toInt (o.2.1 2 32) = Int32.toInt p1 ∨ ¬ (-1 ≤ Int32.toInt p1 ∧ Int32.toInt p1 < Int32.toInt (q.1 2 31) ∨ Int32.toInt p1 = -1) ∧ Int32.toInt o.1 = -2 ∧ Int32.toInt (o.2.1 2 32) = Int32.toInt (q.1 2 32)) := by
  have d0 : Int32.toInt 0 = 0 := by decide
  have d1 : Int32.toInt 1 = 1 := by decide
  have dm : Int32.toInt (-1) = -1 := by decide
  have hx := ti_rg (q.1 2 31)
  have ts : Int32.toInt ((q.1 2 31) - 1 : Int32) = Int32.toInt (q.1 2 31) - 1 := ti_sub rfl d1 (by omega) (by omega)
  have hl : dAll (zX10_isLaw q p1) (fun o => o.2 = q ∧ ((Int32.toInt o.1 = 1 ∧ -1 ≤ Int32.toInt p1 ∧ Int32.toInt p1 ≤ Int32.toInt (q.1 2 31) - 1) ∨ (Int32.toInt o.1 = 0 ∧ ¬ (-1 ≤ Int32.toInt p1 ∧ Int32.toInt p1 ≤ Int32.toInt (q.1 2 31) - 1)))) := by
    unfold zX10_isLaw zX10_lies zX10_lies_14 zX10_lies_15
    refine dA_V (R := fun r => (Int32.toInt r = 1 ∧ -1 ≤ Int32.toInt p1 ∧ Int32.toInt p1 ≤ Int32.toInt (q.1 2 31) - 1) ∨ (Int32.toInt r = 0 ∧ ¬ (-1 ≤ Int32.toInt p1 ∧ Int32.toInt p1 ≤ Int32.toInt (q.1 2 31) - 1))) (dA_lt (fun c => dA_G (fun _ => dA_some (Or.inr ⟨d0, by omega⟩))) (fun c => dA_lt (fun c2 => dA_G (fun _ => dA_some (Or.inr ⟨d0, by omega⟩))) (fun c2 => dA_G (fun _ => dA_some (Or.inl ⟨d1, by omega, by omega⟩))))) (fun r1 z => dA_G (fun _ => dA_some ⟨rfl, z⟩))
  unfold zX10_force
  refine dA_B hl (fun r1 q3 z => ?_)
  obtain ⟨z1, z2⟩ := z
  replace z1 : q3 = q := z1
  replace z2 : (Int32.toInt r1 = 1 ∧ -1 ≤ Int32.toInt p1 ∧ Int32.toInt p1 ≤ Int32.toInt (q.1 2 31) - 1) ∨ (Int32.toInt r1 = 0 ∧ ¬ (-1 ≤ Int32.toInt p1 ∧ Int32.toInt p1 ≤ Int32.toInt (q.1 2 31) - 1)) := z2
  subst z1
  refine dA_eq (fun _ c1 => ?_) (fun _ c1 => ?_)
  · have hr : dAll (zX10_refuses q3 (-2)) (fun x => Int32.toInt x.1 = -2 ∧ x.2.1 2 32 = q3.1 2 32) := by
      unfold zX10_refuses
      refine dA_L (fun q1 e1 => dA_G (fun _ => dA_L (fun v3 _ => dA_G (fun _ => dA_L (fun q5 e5 => dA_some ⟨(by decide : Int32.toInt (-2) = -2), ?_⟩)))))
      show q5.1 2 32 = _
      rw [e5, dui_o (by decide), e1, dui_o (by decide)]
    refine dA_B hr (fun ra qa y => dA_some (Or.inr ⟨by omega, y.1, ?_⟩))
    show Int32.toInt (qa.1 2 32) = _
    have y2 : qa.1 2 32 = q3.1 2 32 := y.2
    rw [y2]
  · unfold zX10_good
    refine dA_L (fun q4 e4 => dA_B (R := fun x => x.1 = q3.1 2 32 ∧ x.2 = dui q4 0 0 0) (dA_L (fun qq eq => dA_some ⟨rfl, eq⟩)) (fun ra qa y => dA_some (Or.inl ⟨by omega, ?_, ?_⟩)))
    · exact congrArg Int32.toInt y.1
    · show Int32.toInt (qa.1 2 32) = _
      have y2 : qa = dui q4 0 0 0 := y.2
      rw [y2, dui_o (by decide), e4, dui_e]
