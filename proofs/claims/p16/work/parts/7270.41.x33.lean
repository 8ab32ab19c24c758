/-! what is only told: at, asks -/
theorem RFw.seat {q : dK} {q2 : dS} (hT : TC q) (hT2 : TS q2) (h : RFw q q2) : dAll (zX9_seated_s0 q) (fun o => LRf o q2 ∧ Int32.toInt (o.1 21 8) = Int32.toInt (q2.1 2 27) ∧ TWR 2 o (q2.1 2) ∧ TC o ∧ kS q o) :=
  dA_mono (dA_and (c_seated hT2 h.1) (dA_of (ok_X9_seated_s0 q hT))) (fun o w => ⟨w.1.1, w.1.2.1, h.1.1.q (fun k => w.1.2.2.1 2 k (by omega) (by omega)) (fun k => w.1.2.2.1 3 k (by omega) (by omega)) (fun k => w.1.2.2.1 4 k (by omega) (by omega)) (fun _ _ => rfl), w.2.1, w.1.2.2⟩)
theorem sv_at {q : dK} {q2 : dS} (hT : TC q) (hT2 : TS q2) (h : RFw q q2) (p1 p2 : Int32) : d2 (zX9_at_s0 q p1 p2) (zX10_at q2 p1 p2) (fun o o2 => o.1 = o2.1) := by
  have d0 : Int32.toInt 0 = 0 := by decide
  have d6 : Int32.toInt 6 = 6 := by decide
  have dm : Int32.toInt (-1) = -1 := by decide
  have f2 := rg_2_2 hT
  obtain ⟨t1, t2, t3, t4⟩ := h.1.1
  unfold zX9_at_s0 zX10_at zX9_at_s0_41 zX10_at_68
  refine d2_rB (m_place q2 p1 (by omega)) (fun r1 q3 z => ?_)
  obtain ⟨z1, z2⟩ := z
  replace z1 : q3 = q2 := z1
  replace z2 : (r1 = 1 ∧ 0 ≤ Int32.toInt p1 ∧ Int32.toInt p1 < Int32.toInt (q2.1 2 29)) ∨ (r1 = 0 ∧ ¬ (0 ≤ Int32.toInt p1 ∧ Int32.toInt p1 < Int32.toInt (q2.1 2 29))) := z2
  subst z1
  refine d2_lif (fun c2 => ?_) (fun c2 => ?_)
  · subst c2
    refine d2_lB (c_floor_s2 q p1) (fun r4 q6 y => ?_)
    obtain ⟨y1, y2⟩ := y
    replace y1 : q6 = q := y1
    replace y2 : (r4 = 1 ∧ 0 ≤ Int32.toInt p1 ∧ Int32.toInt p1 < Int32.toInt (q.1 2 2)) ∨ (r4 = 0 ∧ ¬ (0 ≤ Int32.toInt p1 ∧ Int32.toInt p1 < Int32.toInt (q.1 2 2))) := y2
    subst y1
    rcases y2 with ⟨y2, y3⟩ | ⟨y2, y3⟩
    · have r1' : r1 = 1 := by
        rcases z2 with z | z
        · exact z.1
        · exact absurd ⟨by omega, by omega⟩ z.2
      rw [if_neg (show ¬ r4 = 0 by rw [y2]; decide), if_neg (show ¬ r1 = 0 by rw [r1']; decide), if_neg (show ¬ (2 : Int32) = 0 by decide), if_neg (show ¬ (2 : Int32) = 1 by decide), if_pos rfl]
      obtain ⟨k, hk⟩ : ∃ k : Nat, Int32.toInt p1 = (k : Int) := ⟨(Int32.toInt p1).toNat, by omega⟩
      refine d2_lV (h.seat hT hT2) (fun q9 w => ?_)
      obtain ⟨w1, w2, w3, w4, w5⟩ := w
      have e22 : q9.1 2 2 = q6.1 2 2 := w5.1 2 2 (by decide) (by decide)
      refine d2_BB (jt_s2 q9 q3 p1 hk (by omega) w1 w3 w2 (by rw [e22]; omega)) (fun r10 q12 r11 q13 u => ?_)
      obtain ⟨u1, u2, -, -⟩ := u
      replace u1 : r10 = r11 := u1
      replace u2 : r10 = 0 ∨ r10 = 1 := u2
      subst u1
      refine d2_lV (c_b01 r10) (fun r13 v => ?_)
      refine d2_rif (fun c => d2_some ?_) (fun c => d2_some ?_)
      · rcases v with ⟨-, v⟩ | ⟨v, -⟩
        · exact v
        · exact absurd c v
      · rcases v with ⟨v, -⟩ | ⟨-, v⟩
        · exact absurd v c
        · exact v
    · have r1' : r1 = 0 := by
        rcases z2 with z | z
        · exact absurd ⟨by omega, by omega⟩ y3
        · exact z.1
      rw [if_pos y2, if_pos r1']
      exact d2_some rfl
  · have hR : dAll (if r1 = 0 then some ((-1 : Int32), q3) else if p2 = 0 then dG (dg (0 + p1 : Int32) 5640) (dL (q3.1 2 (Int32.toNatClampNeg (0 + p1 : Int32))) (fun v6 => some (v6, q3))) else if p2 = 1 then dG (dg (6 + p1 : Int32) 5640) (dL (q3.1 2 (Int32.toNatClampNeg (6 + p1 : Int32))) (fun v9 => some (v9, q3))) else if p2 = 2 then dB (zX10_tipsAt q3 p1) (fun r11 q13 => if r11 = 0 then some ((0 : Int32), q13) else some (1, q13)) else some ((-1 : Int32), q3)) (fun o => Int32.toInt o.1 = if (0 ≤ Int32.toInt p1 ∧ Int32.toInt p1 < Int32.toInt (q.1 2 2)) ∧ (p2 = 0 ∨ p2 = 1) then (if p2 = 0 then Int32.toInt (q.1 3 (Int32.toNatClampNeg p1)) else Int32.toInt (q.1 4 (Int32.toNatClampNeg p1))) else -1) := by
      rcases z2 with ⟨z, z3⟩ | ⟨z, z3⟩
      · rw [if_neg (show ¬ r1 = 0 by rw [z]; decide)]
        obtain ⟨k, hk⟩ : ∃ k : Nat, Int32.toInt p1 = (k : Int) := ⟨(Int32.toInt p1).toNat, by omega⟩
        have nk : Int32.toNatClampNeg p1 = k := by have n := cl_eq (i := p1) (by omega); omega
        have t0 : Int32.toInt (0 + p1 : Int32) = (k : Int) := by rw [ti_add d0 hk (by omega) (by omega)]; omega
        have n0 : Int32.toNatClampNeg (0 + p1 : Int32) = k := by have n := cl_eq (i := (0 + p1 : Int32)) (by omega); omega
        have t6 : Int32.toInt (6 + p1 : Int32) = 6 + (k : Int) := ti_add d6 hk (by omega) (by omega)
        have n6 : Int32.toNatClampNeg (6 + p1 : Int32) = 6 + k := by have n := cl_eq (i := (6 + p1 : Int32)) (by omega); omega
        rw [n0, n6, nk]
        refine dA_if (fun c => dA_G (fun _ => dA_L (fun v e => dA_some ?_))) (fun c => dA_if (fun c1 => dA_G (fun _ => dA_L (fun v e => dA_some ?_))) (fun c1 => dA_if (fun cc => absurd cc c2) (fun _ => dA_some ?_)))
        · show Int32.toInt v = _
          rw [if_pos ⟨⟨by omega, by omega⟩, Or.inl c⟩, if_pos c, e]; exact (t2 k (by omega)).1.symm
        · show Int32.toInt v = _
          rw [if_pos ⟨⟨by omega, by omega⟩, Or.inr c1⟩, if_neg c, e]; exact (t2 k (by omega)).2.symm
        · show Int32.toInt (-1) = _
          rw [if_neg (fun w => by rcases w.2 with w | w; exact c w; exact c1 w)]; exact dm
      · rw [if_pos z]
        refine dA_some ?_
        show Int32.toInt (-1) = _
        rw [if_neg (fun w => z3 ⟨w.1.1, by have := w.1.2; omega⟩)]; exact dm
    have hL : dAll (dB (zX8_tell_s2 q p1 p2) (fun r1 q3 => some (r1, q3))) (fun o => Int32.toInt o.1 = if (0 ≤ Int32.toInt p1 ∧ Int32.toInt p1 < Int32.toInt (q.1 2 2)) ∧ (p2 = 0 ∨ p2 = 1) then (if p2 = 0 then Int32.toInt (q.1 3 (Int32.toNatClampNeg p1)) else Int32.toInt (q.1 4 (Int32.toNatClampNeg p1))) else -1) := by
      refine dA_B (R := fun o => Int32.toInt o.1 = if (0 ≤ Int32.toInt p1 ∧ Int32.toInt p1 < Int32.toInt (q.1 2 2)) ∧ (p2 = 0 ∨ p2 = 1) then (if p2 = 0 then Int32.toInt (q.1 3 (Int32.toNatClampNeg p1)) else Int32.toInt (q.1 4 (Int32.toNatClampNeg p1))) else -1) ?_ (fun r q3 w => dA_some w)
      unfold zX8_tell_s2 zX8_tell_s2_15 zX8_tell_s2_36
      refine dA_B (c_floor_s2 q p1) (fun r1 q3 y => ?_)
      obtain ⟨y1, y2⟩ := y
      replace y1 : q3 = q := y1
      replace y2 : (r1 = 1 ∧ 0 ≤ Int32.toInt p1 ∧ Int32.toInt p1 < Int32.toInt (q.1 2 2)) ∨ (r1 = 0 ∧ ¬ (0 ≤ Int32.toInt p1 ∧ Int32.toInt p1 < Int32.toInt (q.1 2 2))) := y2
      subst y1
      have d1 : Int32.toInt 1 = 1 := by decide
      rcases y2 with ⟨y2, y3⟩ | ⟨y2, y3⟩
      · rw [if_neg (show ¬ r1 = 0 by rw [y2]; decide)]
        refine dA_V (c_bitP p2) (fun r4 b => ?_)
        rcases b with ⟨b1, b2, b3⟩ | ⟨b1, b2⟩
        · rw [if_neg (show ¬ r4 = 0 by rw [b1]; decide)]
          refine dA_if (fun c => dA_G (fun _ => dA_L (fun v e => dA_some ?_))) (fun c => dA_G (fun _ => dA_L (fun v e => dA_some ?_)))
          · show Int32.toInt v = _
            rw [if_pos ⟨y3, Or.inl c⟩, if_pos c, e]
          · have c1 : p2 = 1 := i_eq (by
              have : ¬ Int32.toInt p2 = 0 := fun w => c (i_eq (w.trans d0.symm))
              omega)
            show Int32.toInt v = _
            rw [if_pos ⟨y3, Or.inr c1⟩, if_neg c, e]
        · rw [if_pos b1]
          refine dA_some ?_
          show Int32.toInt (-1) = _
          rw [if_neg (fun w => b2 (by rcases w.2 with w | w <;> rw [w] <;> decide))]; exact dm
      · rw [if_pos y2]
        refine dA_some ?_
        show Int32.toInt (-1) = _
        rw [if_neg (fun w => y3 w.1)]; exact dm
    exact d2_of hL hR (fun a b ha hb => i_eq (ha.trans hb.symm))
theorem sv_asks {q : dK} {q2 : dS} (hT : TC q) (hT2 : TS q2) (h : RFw q q2) (p1 p2 : Int32) : d2 (zX9_asks_s0 q p1 p2) (zX10_asks q2 p1 p2) (fun o o2 => o.1 = o2.1) := by
  have d1 : Int32.toInt 1 = 1 := by decide
  have f2 := rg_2_2 hT
  have t1 := h.1.1.1
  unfold zX9_asks_s0 zX10_asks zX9_asks_s0_19 zX9_asks_s0_68 zX10_asks_82 zX10_size
  show d2 _ (dV (zX10_lies p1 1 (q2.1 2 29)) _) _
  refine d2_rV (m_lies p1 1 (q2.1 2 29) d1 rfl) (fun r4 z => ?_)
  have hbad : ∀ {x : Option (Int32 × dK)} {y : Option (Int32 × dS)}, ¬ (1 ≤ Int32.toInt p1 ∧ Int32.toInt p1 ≤ Int32.toInt (q2.1 2 29)) → x = some ((-1 : Int32), q) → d2 x (if r4 = 0 then some ((-1 : Int32), q2) else y) (fun o o2 => o.1 = o2.1) := by
    intro x y hb e
    rw [e]
    rcases z with z | z
    · exact absurd z.2 hb
    · rw [if_pos z.1]; exact d2_some rfl
  refine d2_lif (fun c => hbad (by have := Int32.lt_iff_toInt_lt.mp c; omega) rfl) (fun c => ?_)
  have c1 : ¬ Int32.toInt p1 < Int32.toInt 1 := fun w => c (Int32.lt_iff_toInt_lt.mpr w)
  refine d2_lif (fun c2 => ?_) (fun c2 => hbad (by have : ¬ Int32.toInt p1 ≤ Int32.toInt (q.1 2 2) := fun w => c2 (Int32.le_iff_toInt_le.mpr w); omega) rfl)
  have c3 := Int32.le_iff_toInt_le.mp c2
  have e4 : ¬ r4 = 0 := by
    rcases z with z | z
    · rw [z.1]; decide
    · exact absurd ⟨by omega, by omega⟩ z.2
  rw [if_neg e4]
  obtain ⟨k, hk⟩ : ∃ k : Nat, Int32.toInt p1 = (k : Int) := ⟨(Int32.toInt p1).toNat, by omega⟩
  by_cases p0 : p2 = 0
  · subst p0
    rw [if_pos rfl]
    refine d2_lV (h.seat hT hT2) (fun q9 w => ?_)
    obtain ⟨w1, w2, w3, w4, w5⟩ := w
    have e22 : q9.1 2 2 = q.1 2 2 := w5.1 2 2 (by decide) (by decide)
    have J := jp_s2 q9 q2 p1 hk (by omega) w1 w3 w2 (by rw [e22]; omega) (by rw [e22]; omega)
    intro a b ea eb
    obtain ⟨a1, a2, ea1, ea2⟩ := dB_some ea
    obtain ⟨r6, q8, e1, e2⟩ := dB_some eb
    obtain ⟨q11, e3, e5⟩ := dV_some e2
    rw [if_pos rfl] at e5
    obtain ⟨u, v, e6, e7⟩ := dB_some e5
    have y := J (a1, a2) (u, v) ea1 (by
      rw [e1]
      show dV (zX10_setsTurn q8 p1 (q2.1 2 0) r6 (q8.1 2 6)) (fun q9 => zX10_paysNow q9) = _
      rw [e3]; exact e6)
    cases ea2
    cases e7
    exact y.1
  · rw [if_neg p0]
    by_cases p1' : p2 = 1
    · subst p1'
      rw [if_pos rfl]
      refine d2_lV (h.seat hT hT2) (fun q9 w => ?_)
      obtain ⟨w1, w2, w3, w4, w5⟩ := w
      have e22 : q9.1 2 2 = q.1 2 2 := w5.1 2 2 (by decide) (by decide)
      have J := jb_s2 q9 q2 p1 hk (by omega) w1 w3 w2 (by rw [e22]; omega) (by rw [e22]; omega)
      intro a b ea eb
      obtain ⟨a1, a2, ea1, ea2⟩ := dB_some ea
      obtain ⟨r6, q8, e1, e2⟩ := dB_some eb
      obtain ⟨q11, e3, e5⟩ := dV_some e2
      rw [if_neg (show ¬ (1 : Int32) = 0 by decide), if_pos rfl] at e5
      obtain ⟨u, v, e6, e7⟩ := dB_some e5
      have y := J (a1, a2) (u, v) ea1 (by
        rw [e1]
        show dV (zX10_setsTurn q8 p1 (q2.1 2 0) r6 (q8.1 2 6)) (fun q9 => zX10_isNow q9 2) = _
        rw [e3]; exact e6)
      have y1 : a1 = u := y.1
      subst y1
      have hb := c_b01 a1
      obtain ⟨r7, eb1, eb2⟩ := dV_some ea2
      have v' := hb r7 eb1
      cases eb2
      by_cases c0 : a1 = 0
      · rw [if_pos c0] at e7
        cases e7
        rcases v' with v' | v'
        · exact v'.2
        · exact absurd c0 v'.1
      · rw [if_neg c0] at e7
        cases e7
        rcases v' with v' | v'
        · exact absurd v'.1 c0
        · exact v'.2
    · rw [if_neg p1']
      intro a b ea eb
      obtain ⟨r6, q8, e1, e2⟩ := dB_some eb
      obtain ⟨q11, e3, e5⟩ := dV_some e2
      rw [if_neg p0, if_neg p1'] at e5
      cases ea
      cases e5
      rfl
