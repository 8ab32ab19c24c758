/-! all that an image keeps: here (row s and its rows, tower t), there (one row) -/
def SRl (s t : Nat) (q : dK) (R : Nat → Int32) : Prop := TWR t q R ∧ Int32.toInt (q.1 s 1) = Int32.toInt (R 26) ∧ Int32.toInt (q.1 s 2) = Int32.toInt (R 27) ∧ Int32.toInt (q.1 s 3) = Int32.toInt (R 28) ∧ Int32.toInt (q.1 s 6) = Int32.toInt (R 30) ∧ Int32.toInt (q.1 s 8) = Int32.toInt (R 31) ∧ Int32.toInt (q.1 s 9) = Int32.toInt (R 32) ∧ -1 ≤ Int32.toInt (R 32) ∧ (∀ i : Nat, i < 6 → Int32.toInt (q.1 (s + 4) i) = Int32.toInt (R (14 + 2 * i)) ∧ Int32.toInt (q.1 (s + 5) i) = Int32.toInt (R (15 + 2 * i))) ∧ ∀ F : Nat, F < 6 → (F : Int) < Int32.toInt (R 31) → LRx q (q.1 (s + 6) F) R F
/-- the texts that were stay as they were -/
def Pfx (q o : dK) : Prop := ∀ x : Int32, dlg q x = true → dlg o x = true ∧ dTx o x = dTx q x
theorem Pfx.eq {q o : dK} (e : o.2.2 = q.2.2) : Pfx q o := fun _ h => dlg_eq h e
theorem Pfx.ap {q o : dK} {t : dT} (e : o.2.2 = q.2.2 ++ [t]) : Pfx q o := fun _ h => dlg_ap h e
theorem Pfx.t {q o u : dK} (h : Pfx q o) (k : Pfx o u) : Pfx q u := fun x hx => ⟨(k x (h x hx).1).1, (k x (h x hx).1).2.trans (h x hx).2⟩
theorem SRl.mv {s t : Nat} {q o : dK} {R S : Nat → Int32} (h : SRl s t q R) (ht : TWR t o S) (h0 : ∀ k : Nat, o.1 s k = q.1 s k) (h4 : ∀ k : Nat, o.1 (s + 4) k = q.1 (s + 4) k) (h5 : ∀ k : Nat, o.1 (s + 5) k = q.1 (s + 5) k) (h6 : ∀ k : Nat, o.1 (s + 6) k = q.1 (s + 6) k) (hX : Pfx q o) (hR : ∀ k : Nat, 14 ≤ k → S k = R k) : SRl s t o S := by
  obtain ⟨-, k1, k2, k3, k4, k5, k6, k7, k8, k9⟩ := h
  refine ⟨ht, ?_, ?_, ?_, ?_, ?_, ?_, ?_, fun i hi => ⟨?_, ?_⟩, fun F hF hl => ?_⟩
  · rw [h0, hR 26 (by decide)]; exact k1
  · rw [h0, hR 27 (by decide)]; exact k2
  · rw [h0, hR 28 (by decide)]; exact k3
  · rw [h0, hR 30 (by decide)]; exact k4
  · rw [h0, hR 31 (by decide)]; exact k5
  · rw [h0, hR 32 (by decide)]; exact k6
  · rw [hR 32 (by decide)]; exact k7
  · rw [h4, hR _ (by omega)]; exact (k8 i hi).1
  · rw [h5, hR _ (by omega)]; exact (k8 i hi).2
  · rw [hR 31 (by decide)] at hl
    have z := k9 F hF hl
    have zd := hX _ z.1
    rw [h6]
    exact z.s zd.1 zd.2 (hR _ (by omega)) (fun j _ => ⟨hR _ (by omega), hR _ (by omega)⟩)
/-- seated: what stays -/
def kS (q o : dK) : Prop := (∀ j k : Nat, ¬ (j = 20 ∧ k = 2) → ¬ (j = 21 ∧ k = 8) → o.1 j k = q.1 j k) ∧ o.2 = q.2
theorem c_seated {q : dK} {q2 : dS} (hT2 : TS q2) (hs : SRl 1 2 q (q2.1 2)) : dAll (zX9_seated_s0 q) (fun o => LRf o q2 ∧ Int32.toInt (o.1 21 8) = Int32.toInt (q2.1 2 27) ∧ kS q o) := by
  have d0 : Int32.toInt 0 = 0 := by decide
  have dm : Int32.toInt (-1) = -1 := by decide
  have hk : Int32.toInt (q2.1 2 32) < Int32.toInt (q2.1 2 31) := hT2.2.1.1
  have h31 : 0 ≤ Int32.toInt (q2.1 2 31) ∧ Int32.toInt (q2.1 2 31) ≤ 6 := hT2.1 2 31
  obtain ⟨s0, s1, s2, s3, s4, s5, s6, s7, s8, s9⟩ := hs
  have hl : dAll (zX6_lawAt_s1 q (q.1 1 9)) (fun o => o.2 = q ∧ ((o.1 = 0 ∧ Int32.toInt (q2.1 2 32) = -1) ∨ ∃ F : Nat, F ≤ 5 ∧ Int32.toInt (q2.1 2 32) = (F : Int) ∧ o.1 = q.1 7 F)) := by
    unfold zX6_lawAt_s1 zX6_isLaw_s1 zX6_isLaw_s1_16 zX6_isLaw_s1_17 zX6_lawAt_s1_18
    have hi : dAll (if (q.1 1 9) < 0 then dG (dbl 0) (some ((0 : Int32), q)) else if (q.1 1 8) ≤ (q.1 1 9) then dG (dbl 0) (some ((0 : Int32), q)) else dG (dbl 1) (some ((1 : Int32), q))) (fun o => o.2 = q ∧ ((o.1 = 0 ∧ Int32.toInt (q2.1 2 32) = -1) ∨ (o.1 = 1 ∧ 0 ≤ Int32.toInt (q2.1 2 32)))) := by
      exact dA_lt (fun c => dA_G (fun _ => dA_some ⟨rfl, Or.inl ⟨rfl, by omega⟩⟩)) (fun c => dA_le (fun c2 => absurd c2 (by omega)) (fun c2 => dA_G (fun _ => dA_some ⟨rfl, Or.inr ⟨rfl, by omega⟩⟩)))
    refine dA_B hi (fun r1 q3 z => ?_)
    obtain ⟨z1, z2⟩ := z
    replace z1 : q3 = q := z1
    replace z2 : (r1 = 0 ∧ Int32.toInt (q2.1 2 32) = -1) ∨ (r1 = 1 ∧ 0 ≤ Int32.toInt (q2.1 2 32)) := z2
    subst z1
    rcases z2 with ⟨z2, z3⟩ | ⟨z2, z3⟩
    · rw [if_pos z2]
      exact dA_some ⟨rfl, Or.inl ⟨rfl, z3⟩⟩
    · rw [if_neg (by rw [z2]; decide)]
      have n9 : Int32.toNatClampNeg (q3.1 1 9) = (Int32.toInt (q2.1 2 32)).toNat := by have n := cl_eq (i := q3.1 1 9) (by omega); omega
      refine dA_G (fun _ => dA_L (fun v5 e5 => dA_some ⟨rfl, Or.inr ⟨(Int32.toInt (q2.1 2 32)).toNat, by omega, by omega, ?_⟩⟩))
      show v5 = _
      rw [e5, n9]
  unfold zX9_seated_s0
  refine dA_B hl (fun r1 q3 z => ?_)
  obtain ⟨z1, z2⟩ := z
  replace z1 : q3 = q := z1
  replace z2 : (r1 = 0 ∧ Int32.toInt (q2.1 2 32) = -1) ∨ ∃ F : Nat, F ≤ 5 ∧ Int32.toInt (q2.1 2 32) = (F : Int) ∧ r1 = q.1 7 F := z2
  subst z1
  rcases z2 with ⟨z2, z3⟩ | ⟨F, f1, f2, f3⟩
  · rw [if_pos z2]
    unfold zX1_seat_s20_n
    refine dA_V (dA_L (fun q1 e1 => dA_L (fun q2' e2 => dA_some (P := fun o => o.1 20 2 = 0 ∧ o.1 21 8 = q3.1 1 2 ∧ kS q3 o) ⟨?_, ?_, fun j k h1 h2 => ?_, ?_⟩))) (fun o w => dA_some ⟨Or.inl ⟨w.1, Int32.toInt_inj.mp (z3.trans dm.symm)⟩, ?_, w.2.2⟩)
    · rw [e2, cui_o (by decide), e1, cui_e]
    · rw [e2, cui_e]
    · rw [e2, cui_x h2, e1, cui_x h1]
    · rw [e2, e1]; rfl
    · rw [w.2.1]; exact s2
  · have hL := s9 F (by omega) (by omega)
    have r0 : ¬ r1 = 0 := by rw [f3]; exact (of_decide_eq_true hL.1).1
    rw [if_neg r0]
    unfold zX1_seat_s20_l
    refine dA_V (dA_G (fun _ => dA_L (fun q1 e1 => dA_L (fun q2' e2 => dA_some (P := fun o => o.1 20 2 = r1 ∧ o.1 21 8 = q3.1 1 2 ∧ kS q3 o) ⟨?_, ?_, fun j k h1 h2 => ?_, ?_⟩)))) (fun o w => dA_some ⟨?_, ?_, w.2.2⟩)
    · rw [e2, cui_o (by decide), e1, cui_e]
    · rw [e2, cui_e]
    · rw [e2, cui_x h2, e1, cui_x h1]
    · rw [e2, e1]; rfl
    · have zd := dlg_eq (o := o) hL.1 (congrArg Prod.snd w.2.2.2)
      refine LRf_of (F := F) ?_ f1 f2
      rw [w.1, f3]
      exact hL.s zd.1 zd.2 rfl (fun j _ => ⟨rfl, rfl⟩)
    · rw [w.2.1]; exact s2
theorem m_lies (p a b : Int32) {A B : Int} (ha : Int32.toInt a = A) (hb : Int32.toInt b = B) : dAll (zX10_lies p a b) (fun r => (r = 1 ∧ A ≤ Int32.toInt p ∧ Int32.toInt p ≤ B) ∨ (r = 0 ∧ ¬ (A ≤ Int32.toInt p ∧ Int32.toInt p ≤ B))) := by
  subst ha hb
  unfold zX10_lies zX10_lies_14 zX10_lies_15
  exact dA_lt (fun c => dA_G (fun _ => dA_some (Or.inr ⟨rfl, by omega⟩))) (fun c => dA_lt (fun c2 => dA_G (fun _ => dA_some (Or.inr ⟨rfl, by omega⟩))) (fun c2 => dA_G (fun _ => dA_some (Or.inl ⟨rfl, by omega, by omega⟩))))
/-- kept and moved, there -/
def KPD (kd : Int32) (n : Nat) (q o : dS) : Prop := Int32.toInt (o.1 0 32) = (hnx n : Nat) ∧ (∀ i k : Nat, i < hnx n → k < 15 → o.1 14 (15 * i + k) = hsh n (fun i => q.1 14 (15 * i + k)) (if k = 14 then kd else q.1 2 k) i) ∧ (∀ j k : Nat, ¬ j = 2 → ¬ j = 12 → ¬ j = 13 → ¬ j = 14 → ¬ (j = 0 ∧ 22 ≤ k ∧ k ≤ 25) → ¬ (j = 0 ∧ k = 32) → o.1 j k = q.1 j k) ∧ (∀ k : Nat, 14 ≤ k → o.1 2 k = q.1 2 k) ∧ o.2 = q.2
theorem KPD.of {kd : Int32} {n : Nat} {q q5 q8 o : dS} (h1 : mf2 q q5) (h2 : Int32.toInt (q8.1 0 32) = (hnx n : Nat) ∧ (∀ i k : Nat, i < hnx n → k < 15 → q8.1 14 (15 * i + k) = hsh n (fun i => q5.1 14 (15 * i + k)) (if k = 14 then kd else q5.1 2 k) i) ∧ mH q5 q8) (h3 : mQ q8 o) : KPD kd n q o := by
  have e14 : ∀ k : Nat, q5.1 14 k = q.1 14 k := fun k => h1.1 14 k (by decide) (by omega)
  have e2 : ∀ k : Nat, q5.1 2 k = q.1 2 k := fun k => h1.r2 k
  refine ⟨by rw [h3.1 0 32 (by decide) (by decide) (by decide) (by omega)]; exact h2.1, fun i k hi hk => ?_, fun j k j2 j12 j13 j14 j0 j32 => ?_, fun k hk => ?_, ?_⟩
  · rw [h3.1 14 _ (by decide) (by decide) (by decide) (by omega), h2.2.1 i k hi hk, e2]
    have ef : (fun i => q5.1 14 (15 * i + k)) = (fun i => q.1 14 (15 * i + k)) := funext (fun i => e14 _)
    rw [ef]
  · rw [h3.1 j k j2 j12 j13 j0, h2.2.2.1 j k j14 j32, h1.1 j k j12 j0]
  · rw [h3.2.1 k hk, h2.2.2.1 2 k (by decide) (by omega), e2]
  · rw [h3.2.2, h2.2.2.2, h1.2]
/-- asked and done on both sides -/
def ACT (kd : Int32) (n : Nat) (q : dK) (q2 : dS) (o : Int32 × dK) (o2 : Int32 × dS) : Prop := o.1 = o2.1 ∧ ((Int32.toInt o.1 < 0 ∧ -6 ≤ Int32.toInt o.1 ∧ kfr q o.2 ∧ mf2 q2 o2.2) ∨ (0 ≤ Int32.toInt o.1 ∧ TWR 2 o.2 (o2.2.1 2) ∧ kR [2, 3, 4, 19, 21] q o.2 ∧ KPD kd n q2 o2.2))
theorem mf2.LR {q : dK} {q2 o2 : dS} (h : LRf q q2) (k : mf2 q2 o2) : LRf q o2 := h.s rfl rfl (fun j _ => k.r2 j)
theorem kfr.LR {q o : dK} {q2 : dS} (h : LRf q q2) (k : kfr q o) : LRf o q2 := h.s (k.1 20 2 (by decide) (by decide) (by decide)) k.2.1 (fun _ _ => rfl)
theorem mH.LR {q : dK} {q2 o2 : dS} (h : LRf q q2) (k : mH q2 o2) : LRf q o2 := h.s rfl rfl (fun j _ => k.1 2 j (by decide) (by omega))
theorem ja_turn {q : dK} {q2 : dS} (p : Int32) {n : Nat} (hT : TC q) (hl : LRf q q2) (ht : TWR 2 q (q2.1 2)) (hm : Int32.toInt (q.1 21 8) = Int32.toInt (q2.1 2 27)) (h32 : Int32.toInt (q2.1 0 32) = (n : Int)) (hn : n ≤ 16) : d2 (zX8_turnTop_s2_s20 q p) (zX10_turnsKept q2 p) (ACT 0 n q q2) := by
  have d0 : Int32.toInt 0 = 0 := by decide
  have d1 : Int32.toInt 1 = 1 := by decide
  have d6 : Int32.toInt 6 = 6 := by decide
  have dm : Int32.toInt (-1) = -1 := by decide
  have dm3 : Int32.toInt (-3) = -3 := by decide
  have f2 := rg_2_2 hT
  unfold zX8_turnTop_s2_s20 zX8_turnTop_s2_s20_11 zX8_turnTop_s2_s20_30 zX10_turnsKept
  refine d2_rV (m_lies p 1 6 d1 d6) (fun r z => ?_)
  have hbad : ∀ {x : Option (Int32 × dK)} {y : Option (Int32 × dS)}, ¬ (1 ≤ Int32.toInt p ∧ Int32.toInt p ≤ 6) → x = some ((-1 : Int32), q) → d2 x (if r = 0 then some ((-1 : Int32), q2) else y) (ACT 0 n q q2) := by
    intro x y hb e
    rw [e]
    rcases z with z | z
    · exact absurd z.2 hb
    · rw [if_pos z.1]
      exact d2_some ⟨rfl, Or.inl ⟨by show Int32.toInt (-1) < 0; omega, by show -6 ≤ Int32.toInt (-1); omega, kfr.rf, mf2.rf⟩⟩
  refine d2_lif (fun c => ?_) (fun c => ?_)
  · have c1 := Int32.lt_iff_toInt_lt.mp c
    exact hbad (by omega) rfl
  · have c1 : ¬ Int32.toInt p < Int32.toInt 1 := fun w => c (Int32.lt_iff_toInt_lt.mpr w)
    refine d2_lif (fun c6 => ?_) (fun c6 => ?_)
    · have c2 := Int32.le_iff_toInt_le.mp c6
      obtain ⟨k, hk⟩ : ∃ k : Nat, Int32.toInt p = (k : Int) := ⟨(Int32.toInt p).toNat, by omega⟩
      have r1 : r = 1 := by
        rcases z with z | z
        · exact z.1
        · exact absurd ⟨by omega, by omega⟩ z.2
      refine d2_rif (fun w => absurd (r1.symm.trans w) (by decide)) (fun _ => ?_)
      refine d2_lif (fun c3 => ?_) (fun c3 => ?_)
      · have c4 := Int32.lt_iff_toInt_lt.mp c3
        have hcan : dAll (zX10_canTurn q2 p) (fun o => o.1 = 0 ∧ o.2 = q2) := by
          unfold zX10_canTurn zX10_size
          show dAll (if p ≤ q2.1 2 29 then _ else some ((0 : Int32), q2)) _
          refine dA_if (fun w => ?_) (fun _ => dA_some ⟨rfl, rfl⟩)
          have w1 := Int32.le_iff_toInt_le.mp w
          have := ht.1
          omega
        refine d2_rB hcan (fun r3 q5 w => ?_)
        obtain ⟨w1, w2⟩ := w
        replace w1 : r3 = 0 := w1
        replace w2 : q5 = q2 := w2
        subst w2
        rw [if_pos w1]
        exact d2_some ⟨rfl, Or.inl ⟨by show Int32.toInt (-3) < 0; omega, by show -6 ≤ Int32.toInt (-3); omega, kfr.rf, mf2.rf⟩⟩
      · have c4 : ¬ Int32.toInt (q.1 2 2) < Int32.toInt p := fun w => c3 (Int32.lt_iff_toInt_lt.mpr w)
        have hbj : d2 (zX1_bars_s20_s2 q p) (zX10_canTurn q2 p) (fun o o2 => (((o.1 = 0 ∧ o2.1 = 1) ∨ (o.1 = 1 ∧ o2.1 = 0)) ∧ kfr q o.2 ∧ mf2 q2 o2.2) ∧ (TC o.2 ∧ cFr [19, 21] [(18, 1)] q o.2 ∧ (Int32.toInt o.1 = 0 ∨ Int32.toInt o.1 = 1))) :=
          d2_x (dA_of (ok_X1_bars_s20_s2 q p hT)) (d2_mono (jx_can_s2 q q2 p hk (by omega) hl ht hm (by omega) f2.2) (fun a b w h => ⟨w, h⟩))
        refine d2_BB hbj (fun r3 q5 r4 q6 w => ?_)
        obtain ⟨⟨w1, w2, w3⟩, w4, -⟩ := w
        replace w1 : (r3 = 0 ∧ r4 = 1) ∨ (r3 = 1 ∧ r4 = 0) := w1
        replace w2 : kfr q q5 := w2
        replace w3 : mf2 q2 q6 := w3
        replace w4 : TC q5 := w4
        rcases w1 with ⟨w5, w6⟩ | ⟨w5, w6⟩
        · rw [if_pos w5, if_neg (by rw [w6]; decide)]
          have e32 : Int32.toInt (q6.1 0 32) = (n : Int) := by rw [w3.1 0 32 (by decide) (by omega)]; exact h32
          refine d2_rV (m_keep q6 0 e32 hn) (fun q8 m => ?_)
          obtain ⟨m1, m2, m3⟩ := m
          have e2 : ∀ k : Nat, q8.1 2 k = q2.1 2 k := fun k => (m3.1 2 k (by decide) (by omega)).trans (w3.r2 k)
          have hgo := jx_go_s2 q5 q8 p w4 hk (by omega) (mH.LR (mf2.LR (kfr.LR hl w2) w3) m3) ((TWR_k2 ht w2).m e2) (by rw [w2.2.2, e2 27]; exact hm) (by rw [w2.1 2 2 (by decide) (by decide) (by decide)]; omega)
          intro a b ea eb
          obtain ⟨r9, q11, eb1, eb2⟩ := dB_some eb
          cases eb2
          obtain ⟨g1, g2, g3, g4, g5⟩ := hgo a (r9, q11) ea eb1
          exact ⟨g1, Or.inr ⟨g2, g3, (kf_R2 w2).t g4, KPD.of w3 ⟨m1, m2, m3⟩ g5.q⟩⟩
        · rw [if_neg (by rw [w5]; decide), if_pos w6]
          exact d2_some ⟨rfl, Or.inl ⟨by show Int32.toInt (-3) < 0; omega, by show -6 ≤ Int32.toInt (-3); omega, w2, w3⟩⟩
    · have c2 : ¬ Int32.toInt p ≤ Int32.toInt 6 := fun w => c6 (Int32.le_iff_toInt_le.mpr w)
      exact hbad (by omega) rfl
theorem m_place (q2 : dS) (p : Int32) (h29 : 0 ≤ Int32.toInt (q2.1 2 29) ∧ Int32.toInt (q2.1 2 29) ≤ 6) : dAll (zX10_isPlace q2 p) (fun o => o.2 = q2 ∧ ((o.1 = 1 ∧ 0 ≤ Int32.toInt p ∧ Int32.toInt p < Int32.toInt (q2.1 2 29)) ∨ (o.1 = 0 ∧ ¬ (0 ≤ Int32.toInt p ∧ Int32.toInt p < Int32.toInt (q2.1 2 29))))) := by
  have d0 : Int32.toInt 0 = 0 := by decide
  have d1 : Int32.toInt 1 = 1 := by decide
  have ts : Int32.toInt ((q2.1 2 29) - 1 : Int32) = Int32.toInt (q2.1 2 29) - 1 := ti_sub rfl d1 (by omega) (by omega)
  unfold zX10_isPlace zX10_size
  show dAll (dV (zX10_lies p 0 ((q2.1 2 29) - 1 : Int32)) (fun r4 => dG (dbl r4) (some (r4, q2)))) _
  refine dA_V (m_lies p 0 ((q2.1 2 29) - 1) d0 ts) (fun r z => dA_G (fun _ => dA_some ⟨rfl, ?_⟩))
  rcases z with z | z
  · exact Or.inl ⟨z.1, by omega, by omega⟩
  · exact Or.inr ⟨z.1, by omega⟩
theorem ja_right {q : dK} {q2 : dS} (p : Int32) {n : Nat} (hT : TC q) (ht : TWR 2 q (q2.1 2)) (h32 : Int32.toInt (q2.1 0 32) = (n : Int)) (hn : n ≤ 16) : d2 (zX8_rightAt_s2 q p) (zX10_rightsKept q2 p) (ACT 1 n q q2) := by
  have d0 : Int32.toInt 0 = 0 := by decide
  have d5 : Int32.toInt 5 = 5 := by decide
  have d6 : Int32.toInt 6 = 6 := by decide
  have dm : Int32.toInt (-1) = -1 := by decide
  have dm3 : Int32.toInt (-3) = -3 := by decide
  have f2 := rg_2_2 hT
  have h29 := ht.1
  unfold zX8_rightAt_s2 zX8_rightAt_s2_10 zX10_rightsKept
  refine d2_rV (m_lies p 0 5 d0 d5) (fun r z => ?_)
  have hbad : ∀ {x : Option (Int32 × dK)} {y : Option (Int32 × dS)}, ¬ (0 ≤ Int32.toInt p ∧ Int32.toInt p ≤ 5) → x = some ((-1 : Int32), q) → d2 x (if r = 0 then some ((-1 : Int32), q2) else y) (ACT 1 n q q2) := by
    intro x y hb e
    rw [e]
    rcases z with z | z
    · exact absurd z.2 hb
    · rw [if_pos z.1]
      exact d2_some ⟨rfl, Or.inl ⟨by show Int32.toInt (-1) < 0; omega, by show -6 ≤ Int32.toInt (-1); omega, kfr.rf, mf2.rf⟩⟩
  refine d2_lif (fun c => ?_) (fun c => ?_)
  · have c1 := Int32.lt_iff_toInt_lt.mp c
    exact hbad (by omega) rfl
  · have c1 : ¬ Int32.toInt p < Int32.toInt 0 := fun w => c (Int32.lt_iff_toInt_lt.mpr w)
    refine d2_lif (fun c6 => ?_) (fun c6 => ?_)
    · have c2 := Int32.lt_iff_toInt_lt.mp c6
      obtain ⟨k, hk⟩ : ∃ k : Nat, Int32.toInt p = (k : Int) := ⟨(Int32.toInt p).toNat, by omega⟩
      have r1 : r = 1 := by
        rcases z with z | z
        · exact z.1
        · exact absurd ⟨by omega, by omega⟩ z.2
      refine d2_rif (fun w => absurd (r1.symm.trans w) (by decide)) (fun _ => ?_)
      refine d2_lB (c_floor_s2 q p) (fun r1' q3 y => ?_)
      obtain ⟨y1, y2⟩ := y
      replace y1 : q3 = q := y1
      replace y2 : (r1' = 1 ∧ 0 ≤ Int32.toInt p ∧ Int32.toInt p < Int32.toInt (q.1 2 2)) ∨ (r1' = 0 ∧ ¬ (0 ≤ Int32.toInt p ∧ Int32.toInt p < Int32.toInt (q.1 2 2))) := y2
      subst y1
      refine d2_rB (m_place q2 p (by omega)) (fun r3 q5 w => ?_)
      obtain ⟨w1, w2⟩ := w
      replace w1 : q5 = q2 := w1
      replace w2 : (r3 = 1 ∧ 0 ≤ Int32.toInt p ∧ Int32.toInt p < Int32.toInt (q2.1 2 29)) ∨ (r3 = 0 ∧ ¬ (0 ≤ Int32.toInt p ∧ Int32.toInt p < Int32.toInt (q2.1 2 29))) := w2
      subst w1
      rcases y2 with y2 | y2
      · have w3 : r3 = 1 := by
          rcases w2 with w2 | w2
          · exact w2.1
          · exact absurd ⟨by omega, by omega⟩ w2.2
        rw [if_neg (by rw [y2.1]; decide), if_neg (by rw [w3]; decide)]
        refine d2_rV (m_keep q5 1 h32 hn) (fun q8 m => ?_)
        obtain ⟨m1, m2, m3⟩ := m
        have e2 : ∀ k : Nat, q8.1 2 k = q5.1 2 k := fun k => m3.1 2 k (by decide) (by omega)
        have f1 : 0 ≤ Int32.toInt (q3.1 4 k) ∧ Int32.toInt (q3.1 4 k) ≤ 1 := hT.1 4 k
        intro a b ea eb
        obtain ⟨g1, g2, g3, g4⟩ := jx_right_s2 q3 q8 p hk (by omega) (ht.m e2) a b ea eb
        refine ⟨g1, Or.inr ⟨?_, g2, g3, KPD.of mf2.rf ⟨m1, m2, m3⟩ g4.q⟩⟩
        have hv : dAll (dG (dg p 6) (dL (q3.1 4 (Int32.toNatClampNeg p)) (fun v5 => dG (dg p 6) (dL (cui q3 4 (Int32.toNatClampNeg p) (1 - v5 : Int32)) (fun q7 => dG (dg p 6) (dL (q7.1 4 (Int32.toNatClampNeg p)) (fun v9 => some (v9, q7)))))))) (fun o => 0 ≤ Int32.toInt o.1) := by
          have nk : Int32.toNatClampNeg p = k := by have n := cl_eq (i := p) (by omega); omega
          rw [nk]
          refine dA_G (fun _ => dA_L (fun v e => dA_G (fun _ => dA_L (fun q7 e7 => dA_G (fun _ => dA_L (fun v9 e9 => dA_some ?_))))))
          show 0 ≤ Int32.toInt v9
          rw [e9, e7, cui_e, e, ti_sub (by decide : Int32.toInt 1 = 1) rfl (by omega) (by omega)]
          omega
        exact hv a ea
      · have w3 : r3 = 0 := by
          rcases w2 with w2 | w2
          · exact absurd ⟨by omega, by omega⟩ y2.2
          · exact w2.1
        rw [if_pos y2.1, if_pos w3]
        exact d2_some ⟨rfl, Or.inl ⟨by show Int32.toInt (-3) < 0; omega, by show -6 ≤ Int32.toInt (-3); omega, kfr.rf, mf2.rf⟩⟩
    · have c2 : ¬ Int32.toInt p < Int32.toInt 6 := fun w => c6 (Int32.lt_iff_toInt_lt.mpr w)
      exact hbad (by omega) rfl
theorem ja_swap {q : dK} {q2 : dS} (p : Int32) {n : Nat} (hT : TC q) (ht : TWR 2 q (q2.1 2)) (h32 : Int32.toInt (q2.1 0 32) = (n : Int)) (hn : n ≤ 16) : d2 (zX8_swapAt_s2 q p) (zX10_swapsKept q2 p) (ACT 2 n q q2) := by
  have d0 : Int32.toInt 0 = 0 := by decide
  have d1 : Int32.toInt 1 = 1 := by decide
  have d4 : Int32.toInt 4 = 4 := by decide
  have d5 : Int32.toInt 5 = 5 := by decide
  have dm : Int32.toInt (-1) = -1 := by decide
  have dm3 : Int32.toInt (-3) = -3 := by decide
  have f2 := rg_2_2 hT
  have h29 := ht.1
  unfold zX8_swapAt_s2 zX8_swapAt_s2_9 zX10_swapsKept
  refine d2_rV (m_lies p 0 4 d0 d4) (fun r z => ?_)
  have hbad : ∀ {x : Option (Int32 × dK)} {y : Option (Int32 × dS)}, ¬ (0 ≤ Int32.toInt p ∧ Int32.toInt p ≤ 4) → x = some ((-1 : Int32), q) → d2 x (if r = 0 then some ((-1 : Int32), q2) else y) (ACT 2 n q q2) := by
    intro x y hb e
    rw [e]
    rcases z with z | z
    · exact absurd z.2 hb
    · rw [if_pos z.1]
      exact d2_some ⟨rfl, Or.inl ⟨by show Int32.toInt (-1) < 0; omega, by show -6 ≤ Int32.toInt (-1); omega, kfr.rf, mf2.rf⟩⟩
  refine d2_lif (fun c => ?_) (fun c => ?_)
  · have c1 := Int32.lt_iff_toInt_lt.mp c
    exact hbad (by omega) rfl
  · have c1 : ¬ Int32.toInt p < Int32.toInt 0 := fun w => c (Int32.lt_iff_toInt_lt.mpr w)
    refine d2_lif (fun c6 => ?_) (fun c6 => ?_)
    · have c2 := Int32.lt_iff_toInt_lt.mp c6
      obtain ⟨k, hk⟩ : ∃ k : Nat, Int32.toInt p = (k : Int) := ⟨(Int32.toInt p).toNat, by omega⟩
      have t1 : Int32.toInt (p + 1 : Int32) = (k : Int) + 1 := ti_add hk d1 (by omega) (by omega)
      have r1 : r = 1 := by
        rcases z with z | z
        · exact z.1
        · exact absurd ⟨by omega, by omega⟩ z.2
      refine d2_rif (fun w => absurd (r1.symm.trans w) (by decide)) (fun _ => ?_)
      refine d2_lB (c_floor_s2 q (p + 1)) (fun r1' q3 y => ?_)
      obtain ⟨y1, y2⟩ := y
      replace y1 : q3 = q := y1
      replace y2 : (r1' = 1 ∧ 0 ≤ Int32.toInt (p + 1) ∧ Int32.toInt (p + 1) < Int32.toInt (q.1 2 2)) ∨ (r1' = 0 ∧ ¬ (0 ≤ Int32.toInt (p + 1) ∧ Int32.toInt (p + 1) < Int32.toInt (q.1 2 2))) := y2
      subst y1
      refine d2_rB (m_place q2 (p + 1) (by omega)) (fun r3 q5 w => ?_)
      obtain ⟨w1, w2⟩ := w
      replace w1 : q5 = q2 := w1
      replace w2 : (r3 = 1 ∧ 0 ≤ Int32.toInt (p + 1) ∧ Int32.toInt (p + 1) < Int32.toInt (q2.1 2 29)) ∨ (r3 = 0 ∧ ¬ (0 ≤ Int32.toInt (p + 1) ∧ Int32.toInt (p + 1) < Int32.toInt (q2.1 2 29))) := w2
      subst w1
      rcases y2 with y2 | y2
      · have w3 : r3 = 1 := by
          rcases w2 with w2 | w2
          · exact w2.1
          · exact absurd ⟨by omega, by omega⟩ w2.2
        rw [if_neg (by rw [y2.1]; decide), if_neg (by rw [w3]; decide)]
        refine d2_rV (m_keep q5 2 h32 hn) (fun q8 m => ?_)
        obtain ⟨m1, m2, m3⟩ := m
        have e2 : ∀ k : Nat, q8.1 2 k = q5.1 2 k := fun k => m3.1 2 k (by decide) (by omega)
        have hv : dAll (dV (zX8_exchange_s2 q3 p (p + 1 : Int32)) (fun q6 => dG (dg p 6) (dL (q6.1 3 (Int32.toNatClampNeg p)) (fun v8 => some (v8, q6))))) (fun o => 0 ≤ Int32.toInt o.1) := by
          refine dA_V (dA_of (ok_X8_exchange_s2 q3 p (p + 1) hT ⟨by omega, by omega⟩ ⟨by omega, by omega⟩)) (fun q6 y => dA_G (fun _ => dA_L (fun v8 e8 => dA_some ?_)))
          show 0 ≤ Int32.toInt v8
          rw [e8]
          exact (y.1.1 3 _).1
        intro a b ea eb
        obtain ⟨g1, g2, g3, g4⟩ := jx_swap_s2 q3 q8 p hk (by omega) (ht.m e2) a b ea eb
        exact ⟨g1, Or.inr ⟨hv a ea, g2, g3, KPD.of mf2.rf ⟨m1, m2, m3⟩ g4.q⟩⟩
      · have w3 : r3 = 0 := by
          rcases w2 with w2 | w2
          · exact absurd ⟨by omega, by omega⟩ y2.2
          · exact w2.1
        rw [if_pos y2.1, if_pos w3]
        exact d2_some ⟨rfl, Or.inl ⟨by show Int32.toInt (-3) < 0; omega, by show -6 ≤ Int32.toInt (-3); omega, kfr.rf, mf2.rf⟩⟩
    · have c2 : ¬ Int32.toInt p < Int32.toInt 5 := fun w => c6 (Int32.lt_iff_toInt_lt.mpr w)
      exact hbad (by omega) rfl
theorem ja_pass {q : dK} {q2 : dS} {n : Nat} (hT : TC q) (hl : LRf q q2) (ht : TWR 2 q (q2.1 2)) (hm : Int32.toInt (q.1 21 8) = Int32.toInt (q2.1 2 27)) (hy : Int32.toInt (q2.1 2 13) ≤ 999) (h32 : Int32.toInt (q2.1 0 32) = (n : Int)) (hn : n ≤ 16) : d2 (zX8_passYear_s2_s20 q) (zX10_passesKept q2) (ACT 3 n q q2) := by
  have d9 : Int32.toInt 999 = 999 := by decide
  have dm3 : Int32.toInt (-3) = -3 := by decide
  have t4 := ht.2.2.2
  unfold zX8_passYear_s2_s20 zX10_passesKept
  refine d2_lif (fun c => ?_) (fun c => ?_)
  · have c1 := Int32.lt_iff_toInt_lt.mp c
    refine d2_rif (fun w => by rw [w] at t4; omega) (fun _ => ?_)
    refine d2_rV (m_keep q2 3 h32 hn) (fun q8 m => ?_)
    obtain ⟨m1, m2, m3⟩ := m
    have e2 : ∀ k : Nat, q8.1 2 k = q2.1 2 k := fun k => m3.1 2 k (by decide) (by omega)
    intro a b ea eb
    obtain ⟨r9, q11, eb1, eb2⟩ := dB_some eb
    cases eb2
    obtain ⟨g1, g2, g3, g4, g5⟩ := jx_year_s2 q q8 hT (mH.LR hl m3) (ht.m e2) (by rw [e2 27]; exact hm) a (r9, q11) ea eb1
    exact ⟨g1, Or.inr ⟨g2, g3, g4, KPD.of mf2.rf ⟨m1, m2, m3⟩ g5⟩⟩
  · have c1 : ¬ Int32.toInt (q.1 2 4) < Int32.toInt 999 := fun w => c (Int32.lt_iff_toInt_lt.mpr w)
    refine d2_rif (fun _ => ?_) (fun w => absurd (Int32.toInt_inj.mp (show Int32.toInt (q2.1 2 13) = Int32.toInt 999 by omega)) w)
    exact d2_some ⟨rfl, Or.inl ⟨by show Int32.toInt (-3) < 0; omega, by show -6 ≤ Int32.toInt (-3); omega, kfr.rf, mf2.rf⟩⟩
