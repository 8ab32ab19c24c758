/-! a law asked: both sides -/
/-- what stays on the reference's side -/
def mfr (q o : dS) : Prop := (∀ j k : Nat, ¬ (j = 0 ∧ 22 ≤ k ∧ k ≤ 25) → o.1 j k = q.1 j k) ∧ o.2 = q.2
theorem mfr.rf {q : dS} : mfr q q := ⟨fun _ _ _ => rfl, rfl⟩
/-- the law that is seated here, in force there -/
def LRf (q : dK) (q2 : dS) : Prop := (q.1 20 2 = 0 ∧ q2.1 2 32 = -1) ∨ (¬ q.1 20 2 = 0 ∧ ∃ (F T m L : Nat) (cs vs : Nat → Int), F ≤ 5 ∧ Int32.toInt (q2.1 2 32) = (F : Int) ∧ T ≤ 400 ∧ Int32.toInt (q2.1 2 (33 + F)) = (T : Int) ∧ (∀ j : Nat, j < T → Int32.toInt (q2.1 2 (40 + (400 * F + j))) = cs j ∧ Int32.toInt (q2.1 2 (2840 + (400 * F + j))) = vs j) ∧ cs T = 0 ∧ Int32.toInt (dTx q (q.1 20 2)).1 = (m : Int) ∧ L ≤ Int32.toNatClampNeg (dTx q (q.1 20 2)).2.2.2.1 ∧ Int32.toNatClampNeg (dTx q (q.1 20 2)).2.2.2.1 ≤ 400 ∧ CLS 0 9 cs vs ((dTx q (q.1 20 2)).2.2.2.2 0) ((dTx q (q.1 20 2)).2.2.2.2 1) ((dTx q (q.1 20 2)).2.2.2.2 2) ((dTx q (q.1 20 2)).2.2.2.2 3) ((dTx q (q.1 20 2)).2.2.2.2 4) ((dTx q (q.1 20 2)).2.2.2.2 5) m T L)
/-- the words -/
def WRd (q : dK) (q2 : dS) (A : Nat → Int) : Prop := (∀ k : Nat, k < 9 → Int32.toInt (q.1 21 k) = A k) ∧ (∀ j : Nat, j < 9 → Int32.toInt (q2.1 12 (wcd_3 j - 8)) = A j) ∧ ∀ j : Nat, -2147483648 ≤ A j ∧ A j ≤ 2147483647
theorem m_tells {cs vs A : Nat → Int} {T m L F : Nat} {K S1 S2 S3 C : Nat → Int32} {H : Nat → Bool} {S : Nat → Option Int} (hL : LSem cs vs A T m L K S1 S2 S3 C H S) (q : dS) (hd w : Int32) (hF : F ≤ 5) (h32 : Int32.toInt (q.1 2 32) = (F : Int)) (hT : T ≤ 400) (h33 : Int32.toInt (q.1 2 (33 + F)) = (T : Int)) (hc : ∀ j : Nat, j < T → Int32.toInt (q.1 2 (40 + (400 * F + j))) = cs j ∧ Int32.toInt (q.1 2 (2840 + (400 * F + j))) = vs j) (hcT : cs T = 0) (hA : ∀ j : Nat, j < 9 → Int32.toInt (q.1 12 (wcd_3 j - 8)) = A j) (hb : ∀ j : Nat, -2147483648 ≤ A j ∧ A j ≤ 2147483647) : dAll (zX10_tells q hd w) (fun o => Int32.toInt o.1 = TL (Int32.toInt hd) (fun i => Int32.toInt (K i)) H S (Int32.toInt w) m ∧ mfr q o.2) := by
  have dm : Int32.toInt (-1) = -1 := by decide
  have d0 : Int32.toInt 0 = 0 := by decide
  have d400 : Int32.toInt 400 = 400 := by decide
  have d33 : Int32.toInt 33 = 33 := by decide
  have hw := ti_rg w
  unfold zX10_tells
  refine dA_eq (fun _ c => by omega) (fun _ _ => dA_L (fun q1 e1 => dA_L (fun q2 e2 => dA_G (fun _ => dA_L (fun v4 e4 => dA_L (fun q5 e5 => ?_))))))
  have f1 : ∀ j k : Nat, ¬ (j = 0 ∧ k = 25) → q1.1 j k = q.1 j k := fun j k hj => by rw [e1, dui_x hj]
  have f2 : ∀ j k : Nat, ¬ (j = 0 ∧ (k = 22 ∨ k = 25)) → q2.1 j k = q.1 j k := fun j k hj => by rw [e2, dui_x (fun z => hj ⟨z.1, Or.inl z.2⟩), f1 j k (fun z => hj ⟨z.1, Or.inr z.2⟩)]
  have f5 : ∀ j k : Nat, ¬ (j = 0 ∧ (k = 22 ∨ k = 23 ∨ k = 25)) → q5.1 j k = q.1 j k := fun j k hj => by rw [e5, dui_x (fun z => hj ⟨z.1, Or.inr (Or.inl z.2)⟩), f2 j k (fun z => hj ⟨z.1, by omega⟩)]
  have t22 : Int32.toInt (q2.1 0 22) = ((400 * F : Nat) : Int) := by
    rw [e2, dui_e, ti_mul d400 ((congrArg Int32.toInt (f1 2 32 (by decide))).trans h32) (by omega) (by omega)]; omega
  have n33 : Int32.toNatClampNeg (33 + q2.1 2 32 : Int32) = 33 + F := by
    have z : Int32.toInt (33 + q2.1 2 32 : Int32) = 33 + (F : Int) := ti_add d33 (by rw [f2 2 32 (by decide)]; exact h32) (by omega) (by omega)
    have n := cl_eq (i := (33 + q2.1 2 32 : Int32)) (by omega)
    omega
  have t4 : Int32.toInt v4 = (T : Int) := by rw [e4, n33, f2 2 _ (by omega)]; exact h33
  have hK : EK 0 cs vs A (400 * F) T q5 := by
    refine ⟨by omega, fun j hj => ?_, hcT, ?_, ?_, hb, fun _ j hj => ?_, fun z => absurd z (by decide)⟩
    · rw [f5 2 _ (by omega), f5 2 _ (by omega)]; exact hc j hj
    · rw [e5, dui_e, ti_add t22 t4 (by omega) (by omega)]; omega
    · rw [e5, dui_n (by decide), e2, dui_n (by decide), e1, dui_e]; exact d0
    · rw [f5 12 _ (by omega)]; exact hA j hj
  have hE : EG q5 (400 * F) T q5 0 := ⟨⟨fun _ _ _ => rfl, rfl⟩, Nat.zero_le _, by rw [e5, dui_n (by decide), t22]; omega⟩
  refine dA_mono (t_loop hK hL hd (Int32.toInt w) hw q5 (Int32.toInt64 w) hE (i2l w)) (fun o z => ⟨z.1, fun j k hj => ?_, ?_⟩)
  · rw [z.2.1 j k (by omega), f5 j k (by omega)]
  · rw [z.2.2, e5, e2, e1]; rfl
/-- bars (1), tips (2): both sides alike -/
theorem j_any {q : dK} {q2 : dS} {A : Nat → Int} (hl : LRf q q2) (hw : WRd q q2 A) (p1 p2 : Int32) (hp : Int32.toInt p2 = Int32.toInt p1 + 1) (h1 : 1 ≤ Int32.toInt p1) : d2 (zX1_anyHolds_s20 q p1) (zX10_isNow q2 p2) (fun o o2 => o.1 = o2.1 ∧ (o.1 = 0 ∨ o.1 = 1) ∧ vfr q o.2 ∧ mfr q2 o2.2) := by
  have d0 : Int32.toInt 0 = 0 := by decide
  have d1 : Int32.toInt 1 = 1 := by decide
  unfold zX10_isNow zX10_isNow_15
  rcases hl with ⟨k1, k2⟩ | ⟨k1, F, T, m, L, cs, vs, k2, k3, k4, k5, k6, k7, k8, k9, k10, k11⟩
  · have hL : dAll (zX1_anyHolds_s20 q p1) (fun o => o.1 = 0 ∧ o.2 = q) := by
      unfold zX1_anyHolds_s20
      exact dA_if (fun _ => dA_some ⟨rfl, rfl⟩) (fun c => absurd k1 c)
    have hR : dAll (zX10_tells q2 p2 0) (fun o => o.1 = 0 ∧ o.2 = q2) := by
      unfold zX10_tells
      exact dA_if (fun _ => dA_some ⟨rfl, rfl⟩) (fun c => absurd k2 c)
    refine d2_rB hR (fun r1 q3 z => ?_)
    obtain ⟨z1, z2⟩ := z
    replace z1 : r1 = 0 := z1
    replace z2 : q3 = q2 := z2
    subst z1 z2
    refine d2_rif (fun c => absurd c (by decide)) (fun _ => d2_rG (fun _ => d2_of hL (dA_some rfl : dAll (some ((0 : Int32), q3)) (fun o => o = (0, q3))) (fun a b ha hb => ?_)))
    rw [hb, ha.2]
    exact ⟨ha.1, Or.inl ha.1, vfr.rf, mfr.rf⟩
  · obtain ⟨H, S, hS⟩ := l_sem A k11
    have hl2 : LTx cs vs A T m L (dTx q (q.1 20 2)) H S := ⟨hS, k8, k9, k10⟩
    have hl3 := hS
    obtain ⟨m1, m2, ts, ws, fa, fb, fc, -, hc⟩ := hl3
    have hs1 : ∀ i : Nat, i < m → Int32.toInt ((dTx q (q.1 20 2)).2.2.2.2 0 i) + 1 = Int32.toInt p2 → S i = some 1 := fun i hi e => by
      obtain ⟨-, -, -, -, z, -⟩ := hc i hi
      exact z.1 (by omega)
    refine d2_rB (m_tells hS q2 p2 0 k2 k3 k4 k5 k6 k7 hw.2.1 hw.2.2) (fun r1 q3 z => ?_)
    obtain ⟨z1, z2⟩ := z
    replace z1 : Int32.toInt r1 = TL (Int32.toInt p2) (fun i => Int32.toInt ((dTx q (q.1 20 2)).2.2.2.2 0 i)) H S (Int32.toInt 0) m := z1
    replace z2 : mfr q2 q3 := z2
    rw [d0] at z1
    have ta := TL_any (hd := Int32.toInt p2) (K := fun i => Int32.toInt ((dTx q (q.1 20 2)).2.2.2.2 0 i)) (H := H) (S := S) m hs1
    rw [← z1] at ta
    have hany := c_any hl2 q p1 (q.1 20 2) rfl k1 rfl hw.1
    refine d2_rif (fun c => d2_rG (fun _ => d2_of hany (dA_some rfl : dAll (some ((1 : Int32), q3)) (fun o => o = (1, q3))) (fun a b ha hb => ?_))) (fun c => d2_rG (fun _ => d2_of hany (dA_some rfl : dAll (some ((0 : Int32), q3)) (fun o => o = (0, q3))) (fun a b ha hb => ?_)))
    · rw [hb]
      rcases ha.2 with ⟨y1, -⟩ | ⟨-, y2⟩
      · exact ⟨y1, Or.inr y1, ha.1, z2⟩
      · exfalso
        rcases ta with ⟨-, i, i1, i2, i3⟩ | ⟨e, -⟩
        · replace i2 : Int32.toInt ((dTx q (q.1 20 2)).2.2.2.2 0 i) + 1 = Int32.toInt p2 := i2
          exact y2 i i1 (by omega) i3
        · rw [c] at e; omega
    · rw [hb]
      rcases ha.2 with ⟨-, i, i1, i2, i3⟩ | ⟨y1, -⟩
      · exfalso
        rcases ta with ⟨e, -⟩ | ⟨-, y2⟩
        · exact c (Int32.toInt_inj.mp (by omega))
        · exact y2 i i1 (by show Int32.toInt ((dTx q (q.1 20 2)).2.2.2.2 0 i) + 1 = Int32.toInt p2; omega) i3
      · exact ⟨y1, Or.inl y1, ha.1, z2⟩
/-- what a turn pays: both sides alike -/
theorem j_pay {q : dK} {q2 : dS} {A : Nat → Int} (hl : LRf q q2) (hw : WRd q q2 A) : d2 (zX1_pay_s20 q) (zX10_paysNow q2) (fun o o2 => o.1 = o2.1 ∧ vfr q o.2 ∧ mfr q2 o2.2) := by
  have d1 : Int32.toInt 1 = 1 := by decide
  have a0 : Int32.toInt (q2.1 12 0) = A 0 := hw.2.1 0 (by decide)
  have b0 := hw.1 0 (by decide)
  have e0 : q.1 21 0 = q2.1 12 0 := Int32.toInt_inj.mp (b0.trans a0.symm)
  rcases hl with ⟨k1, k2⟩ | ⟨k1, F, T, m, L, cs, vs, k2, k3, k4, k5, k6, k7, k8, k9, k10, k11⟩
  · have hL : dAll (zX1_pay_s20 q) (fun o => o.1 = q.1 21 0 ∧ o.2 = q) := by
      unfold zX1_pay_s20
      exact dA_if (fun _ => dA_some ⟨rfl, rfl⟩) (fun c => absurd k1 c)
    have hR : dAll (zX10_paysNow q2) (fun o => o.1 = q2.1 12 0 ∧ o.2 = q2) := by
      unfold zX10_paysNow zX10_tells
      exact dA_B (R := fun o => o.1 = q2.1 12 0 ∧ o.2 = q2) (dA_if (fun _ => dA_some ⟨rfl, rfl⟩) (fun c => absurd k2 c)) (fun r q3 z => dA_some z)
    exact d2_of hL hR (fun a b ha hb => ⟨by rw [ha.1, hb.1]; exact e0, by rw [ha.2]; exact vfr.rf, by rw [hb.2]; exact mfr.rf⟩)
  · obtain ⟨H, S, hS⟩ := l_sem A k11
    have hl2 : LTx cs vs A T m L (dTx q (q.1 20 2)) H S := ⟨hS, k8, k9, k10⟩
    have hR : dAll (zX10_paysNow q2) (fun o => Int32.toInt o.1 = TL 1 (fun i => Int32.toInt ((dTx q (q.1 20 2)).2.2.2.2 0 i)) H S (A 0) m ∧ mfr q2 o.2) := by
      unfold zX10_paysNow
      refine dA_B (m_tells hS q2 1 (q2.1 12 0) k2 k3 k4 k5 k6 k7 hw.2.1 hw.2.2) (fun r q3 z => dA_some ?_)
      obtain ⟨z1, z2⟩ := z
      rw [d1, a0] at z1
      exact ⟨z1, z2⟩
    exact d2_of (c_pay hl2 q (q.1 20 2) rfl k1 rfl hw.1) hR (fun a b ha hb => ⟨Int32.toInt_inj.mp (ha.2.trans hb.1.symm), ha.1, hb.2⟩)
