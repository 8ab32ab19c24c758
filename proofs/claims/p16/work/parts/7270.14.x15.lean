/-! a tower moved: both sides -/
/-- what stays here, there -/
def kR (S : List Nat) (q o : dK) : Prop := (∀ j k : Nat, j ∉ S → ¬ (j = 18 ∧ k = 1) → o.1 j k = q.1 j k) ∧ o.2 = q.2 ∧ o.1 21 8 = q.1 21 8
def mR (q o : dS) : Prop := (∀ j k : Nat, ¬ j = 2 → ¬ j = 12 → ¬ (j = 0 ∧ 22 ≤ k ∧ k ≤ 25) → o.1 j k = q.1 j k) ∧ (∀ k : Nat, 14 ≤ k → o.1 2 k = q.1 2 k) ∧ o.2 = q.2
theorem kR.rf {S : List Nat} {q : dK} : kR S q q := ⟨fun _ _ _ _ => rfl, rfl, rfl⟩
theorem kR.t {S : List Nat} {q o u : dK} (h : kR S q o) (k : kR S o u) : kR S q u := ⟨fun j i h1 h2 => (k.1 j i h1 h2).trans (h.1 j i h1 h2), k.2.1.trans h.2.1, k.2.2.trans h.2.2⟩
theorem mR.rf {q : dS} : mR q q := ⟨fun _ _ _ _ _ => rfl, fun _ _ => rfl, rfl⟩
theorem mR.t {q o u : dS} (h : mR q o) (k : mR o u) : mR q u := ⟨fun j i h1 h2 h3 => (k.1 j i h1 h2 h3).trans (h.1 j i h1 h2 h3), fun i hi => (k.2.1 i hi).trans (h.2.1 i hi), k.2.2.trans h.2.2⟩
theorem mR.i {q o : dS} {k : Nat} {v : Int32} (h : mR q o) (hk : k < 14) : mR q (dui o 2 k v) := ⟨fun a b h1 h2 h3 => by rw [dui_o h1]; exact h.1 a b h1 h2 h3, fun i hi => by rw [dui_n (by omega)]; exact h.2.1 i hi, h.2.2⟩
theorem mR.f2 {q o : dS} (h : mf2 q o) : mR q o := ⟨fun j k _ h2 h3 => h.1 j k h2 h3, fun k _ => h.1 2 k (by decide) (by omega), h.2⟩
theorem TWR.m {t : Nat} {q : dK} {R R2 : Nat → Int32} (h : TWR t q R) (h2 : ∀ k : Nat, R2 k = R k) : TWR t q R2 := by
  unfold TWR at h ⊢
  rw [h2, h2, h2]
  exact ⟨h.1, fun i hi => by rw [h2, h2]; exact h.2.1 i hi, h.2.2⟩
theorem kf_R2 {q o : dK} (h : kfr q o) : kR [2, 3, 4, 19, 21] q o := ⟨fun j k h1 h2 => h.1 j k (fun z => h1 (by rw [z]; decide)) (fun z => h1 (by rw [z]; decide)) h2, h.2⟩
theorem kR_i2 {q o : dK} {j k : Nat} {v : Int32} (h : kR [2, 3, 4, 19, 21] q o) (hj : j ∈ [2, 3, 4, 19, 21]) (h21 : ¬ 21 = j := by decide) : kR [2, 3, 4, 19, 21] q (cui o j k v) := ⟨fun a b h1 h2 => by rw [cui_o (fun z => h1 (by rw [z]; exact hj))]; exact h.1 a b h1 h2, h.2.1, by rw [cui_o h21]; exact h.2.2⟩
theorem TWR_k2 {q o : dK} {R : Nat → Int32} (h : TWR 2 q R) (k : kfr q o) : TWR 2 o R := by
  unfold TWR at h ⊢
  rw [k.1 2 2 (by decide) (by decide) (by decide), k.1 2 3 (by decide) (by decide) (by decide), k.1 2 4 (by decide) (by decide) (by decide)]
  exact ⟨h.1, fun i hi => by rw [k.1 (2 + 1) i (by decide) (by decide) (by omega), k.1 (2 + 2) i (by decide) (by decide) (by omega)]; exact h.2.1 i hi, h.2.2⟩
theorem jx_exch_s2 (q : dK) (q2 : dS) (p1 p2 r1 r2 : Int32) {a b : Nat} (h1 : Int32.toInt p1 = (a : Int)) (h2 : Int32.toInt p2 = (b : Int)) (h3 : Int32.toInt r1 = (a : Int)) (h4 : Int32.toInt r2 = (b : Int)) (ha : a < 6) (hb : b < 6) (ht : TWR 2 q (q2.1 2)) : d2 (zX8_exchange_s2 q p1 p2) (zX10_exchanges q2 r1 r2) (fun o o2 => TWR 2 o (o2.1 2) ∧ kR [2, 3, 4, 19, 21] q o ∧ mR q2 o2 ∧ (∀ k : Nat, o.1 2 k = q.1 2 k)) := by
  have d0 : Int32.toInt 0 = 0 := by decide
  have d6 : Int32.toInt 6 = 6 := by decide
  obtain ⟨t1, t2, t3, t4⟩ := ht
  have n1 : Int32.toNatClampNeg p1 = a := by have n := cl_eq (i := p1) (by omega); omega
  have n2 : Int32.toNatClampNeg p2 = b := by have n := cl_eq (i := p2) (by omega); omega
  have m1 : Int32.toNatClampNeg (0 + r1 : Int32) = a := by
    have z : Int32.toInt (0 + r1 : Int32) = 0 + (a : Int) := ti_add d0 h3 (by omega) (by omega)
    have n := cl_eq (i := (0 + r1 : Int32)) (by omega)
    omega
  have m2 : Int32.toNatClampNeg (0 + r2 : Int32) = b := by
    have z : Int32.toInt (0 + r2 : Int32) = 0 + (b : Int) := ti_add d0 h4 (by omega) (by omega)
    have n := cl_eq (i := (0 + r2 : Int32)) (by omega)
    omega
  have m3 : Int32.toNatClampNeg (6 + r1 : Int32) = 6 + a := by
    have z : Int32.toInt (6 + r1 : Int32) = 6 + (a : Int) := ti_add d6 h3 (by omega) (by omega)
    have n := cl_eq (i := (6 + r1 : Int32)) (by omega)
    omega
  have m4 : Int32.toNatClampNeg (6 + r2 : Int32) = 6 + b := by
    have z : Int32.toInt (6 + r2 : Int32) = 6 + (b : Int) := ti_add d6 h4 (by omega) (by omega)
    have n := cl_eq (i := (6 + r2 : Int32)) (by omega)
    omega
  unfold zX8_exchange_s2 zX10_exchanges
  rw [n1, n2, m1, m2, m3, m4]
  refine d2_lG (fun _ => d2_lL (fun v2 e2 => d2_lG (fun _ => d2_lL (fun v4 e4 => d2_lG (fun _ => d2_lL (fun v6 e6 => d2_lG (fun _ => d2_lL (fun q8 e8 => d2_lG (fun _ => d2_lL (fun v10 e10 => d2_lG (fun _ => d2_lL (fun q12 e12 => d2_lG (fun _ => d2_lL (fun q14 e14 => d2_lG (fun _ => d2_lL (fun q16 e16 => ?_))))))))))))))))
  refine d2_rG (fun _ => d2_rL (fun u2 f2 => d2_rG (fun _ => d2_rL (fun u4 f4 => d2_rG (fun _ => d2_rL (fun u6 f6 => d2_rG (fun _ => d2_rL (fun s8 f8 => d2_rG (fun _ => d2_rL (fun u10 f10 => d2_rG (fun _ => d2_rL (fun s12 f12 => d2_rG (fun _ => d2_rL (fun s14 f14 => d2_rG (fun _ => d2_rL (fun s16 f16 => d2_some ?_))))))))))))))))
  have ia := t2 a ha
  have ib := t2 b hb
  rw [e8, cui_o (by decide)] at e10
  rw [f8, dui_n (by omega)] at f10
  have hT : ∀ k : Nat, q16.1 2 k = q.1 2 k := fun k => by rw [e16, cui_o (by decide), e14, cui_o (by decide), e12, cui_o (by decide), e8, cui_o (by decide)]
  have hM : ∀ k : Nat, 12 ≤ k → s16.1 2 k = q2.1 2 k := fun k hk => by rw [f16, dui_n (by omega), f14, dui_n (by omega), f12, dui_n (by omega), f8, dui_n (by omega)]
  refine ⟨⟨by rw [hT, hM 29 (by decide)]; exact t1, fun i hi => ⟨?_, ?_⟩, by rw [hT, hM 12 (by decide)]; exact t3, by rw [hT, hM 13 (by decide)]; exact t4⟩, ?_, ?_, hT⟩
  · show Int32.toInt (q16.1 3 i) = Int32.toInt (s16.1 2 i)
    rw [e16, cui_o (by decide), e14, f16, dui_n (by omega), f14]
    by_cases c : i = b
    · rw [c, cui_e, dui_e, e2, f2]; exact ia.1
    · rw [cui_n c, dui_n c, e12, cui_o (by decide), e8, f12, dui_n (by omega), f8]
      by_cases c2 : i = a
      · rw [c2, cui_e, dui_e, e6, f6]; exact ib.1
      · rw [cui_n c2, dui_n c2]; exact (t2 i hi).1
  · show Int32.toInt (q16.1 4 i) = Int32.toInt (s16.1 2 (6 + i))
    rw [e16, f16]
    by_cases c : i = b
    · rw [c, cui_e, dui_e, e4, f4]; exact ia.2
    · rw [cui_n c, dui_n (by omega), e14, cui_o (by decide), e12, f14, dui_n (by omega), f12]
      by_cases c2 : i = a
      · rw [c2, cui_e, dui_e, e10, f10]; exact ib.2
      · rw [cui_n c2, dui_n (by omega), e8, cui_o (by decide), f8, dui_n (by omega)]; exact (t2 i hi).2
  · rw [e16, e14, e12, e8]
    exact kR_i2 (kR_i2 (kR_i2 (kR_i2 kR.rf (by decide)) (by decide)) (by decide)) (by decide)
  · rw [f16, f14, f12, f8]
    exact (((mR.rf.i (by omega)).i (by omega)).i (by omega)).i (by omega)
/-- the heads of the top k change; what was paid is told -/
theorem jx_75_s2 (q0 : dK) (q20 : dS) (p1 r4 : Int32) {k : Nat} (hp : Int32.toInt p1 = (k : Int)) (hk : k ≤ 6) (hr : 0 ≤ Int32.toInt r4 ∧ Int32.toInt r4 ≤ 99) (hpd : 0 ≤ Int32.toInt (q0.1 2 3) ∧ Int32.toInt (q0.1 2 3) ≤ 16383) (ht : TWR 2 q0 (q20.1 2)) : d2 (zX8_turnTop_s2_s20_75 dF q0 p1 r4 0) (zX10_turns_57 dF q20 p1 r4 0) (fun o o2 => o.1 = r4 ∧ o2.1 = r4 ∧ TWR 2 o.2 (o2.2.1 2) ∧ kR [2, 3, 4, 19, 21] q0 o.2 ∧ mR q20 o2.2) := by
  have d0 : Int32.toInt 0 = 0 := by decide
  have d1 : Int32.toInt 1 = 1 := by decide
  have d6 : Int32.toInt 6 = 6 := by decide
  have d9 : Int32.toInt 9999 = 9999 := by decide
  unfold zX8_turnTop_s2_s20_75 zX10_turns_57
  refine d2_fix (fun (a : dK × Int32 × Int32 × Int32) (a2 : dS × Int32 × Int32 × Int32) => a.2.1 = p1 ∧ a.2.2.1 = r4 ∧ a2.2.1 = p1 ∧ a2.2.2.1 = r4 ∧ a.2.2.2 = a2.2.2.2 ∧ (∃ i : Nat, i ≤ k ∧ Int32.toInt a.2.2.2 = (i : Int)) ∧ TWR 2 a.1 (a2.1.1 2) ∧ kR [2, 3, 4, 19, 21] q0 a.1 ∧ mR q20 a2.1 ∧ a.1.1 2 3 = q0.1 2 3) ?_ dF dF _ _ ⟨rfl, rfl, rfl, rfl, rfl, ⟨0, Nat.zero_le _, d0⟩, ht, kR.rf, mR.rf, rfl⟩
  intro k1 k2 hkk a a2 ha
  obtain ⟨qa, x1, x3, x4⟩ := a
  obtain ⟨qb, y1, y3, y4⟩ := a2
  obtain ⟨h1, h2, h3, h4, h5, ⟨i, hi, h6⟩, h7, h8, h9, h10⟩ := ha
  replace h1 : x1 = p1 := h1
  replace h2 : x3 = r4 := h2
  replace h3 : y1 = p1 := h3
  replace h4 : y3 = r4 := h4
  replace h5 : x4 = y4 := h5
  replace h6 : Int32.toInt x4 = (i : Int) := h6
  replace h7 : TWR 2 qa (qb.1 2) := h7
  replace h8 : kR [2, 3, 4, 19, 21] q0 qa := h8
  replace h9 : mR q20 qb := h9
  replace h10 : qa.1 2 3 = q0.1 2 3 := h10
  subst h1 h2 h5
  rw [h3, h4]
  obtain ⟨t1, t2, t3, t4⟩ := h7
  show d2 (zX8_turnTop_s2_s20_75b (fun q x1 x3 x4 => k1 (q, x1, x3, x4)) qa x1 x3 x4) (zX10_turns_57b (fun q x1 x2 x3 => k2 (q, x1, x2, x3)) qb x1 x3 x4) _
  unfold zX8_turnTop_s2_s20_75b zX10_turns_57b
  by_cases c : x1 ≤ x4
  · rw [if_pos c, if_pos c]
    unfold zX10_lesser zX10_lesser_10
    have hl : dAll (if ((qb.1 2 12) + x3 : Int32) ≤ 9999 then some ((qb.1 2 12) + x3 : Int32) else some 9999) (fun r => Int32.toInt r = if Int32.toInt (qb.1 2 12) + Int32.toInt x3 ≤ 9999 then Int32.toInt (qb.1 2 12) + Int32.toInt x3 else 9999) := by
      have ts : Int32.toInt ((qb.1 2 12) + x3 : Int32) = Int32.toInt (qb.1 2 12) + Int32.toInt x3 := ti_add rfl rfl (by rw [← t3, h10]; omega) (by rw [← t3, h10]; omega)
      exact dA_le (fun c => dA_some (by rw [if_pos (by omega), ts])) (fun c => dA_some (by rw [if_neg (by omega), d9]))
    refine d2_lL (fun q1 e1 => d2_rV hl (fun r1 hr1 => d2_rL (fun q3 e3 => d2_some ⟨rfl, rfl, ?_, ?_, ?_⟩)))
    · refine ⟨by rw [e1, cui_n (by decide), e3, dui_n (by decide)]; exact t1, fun i hi => ⟨?_, ?_⟩, ?_, by rw [e1, cui_n (by decide), e3, dui_n (by decide)]; exact t4⟩
      · show Int32.toInt (q1.1 (2 + 1) i) = Int32.toInt (q3.1 2 i)
        rw [e1, cui_o (by decide), e3, dui_n (by omega)]; exact (t2 i hi).1
      · show Int32.toInt (q1.1 (2 + 2) i) = Int32.toInt (q3.1 2 (6 + i))
        rw [e1, cui_o (by decide), e3, dui_n (by omega)]; exact (t2 i hi).2
      · rw [e1, cui_e, e3, dui_e, hr1, ← t3, h10]
        have ts : Int32.toInt ((q0.1 2 3) + x3 : Int32) = Int32.toInt (q0.1 2 3) + Int32.toInt x3 := ti_add rfl rfl (by omega) (by omega)
        have z := mn_le (a := 9999) (b := (q0.1 2 3) + x3)
        by_cases c9 : Int32.toInt (q0.1 2 3) + Int32.toInt x3 ≤ 9999
        · rw [if_pos c9]; omega
        · rw [if_neg c9]; omega
    · rw [e1]; exact kR_i2 h8 (by decide)
    · rw [e3]; exact h9.i (by decide)
  · rw [if_neg c, if_neg c]
    have cl : Int32.toInt x4 < Int32.toInt x1 := by
      have z : ¬ Int32.toInt x1 ≤ Int32.toInt x4 := fun z => c (Int32.le_iff_toInt_le.mpr z)
      omega
    have n4 : Int32.toNatClampNeg x4 = i := by have n := cl_eq (i := x4) (by omega); omega
    have n6 : Int32.toNatClampNeg (6 + x4 : Int32) = 6 + i := by
      have z : Int32.toInt (6 + x4 : Int32) = 6 + (i : Int) := ti_add d6 h6 (by omega) (by omega)
      have n := cl_eq (i := (6 + x4 : Int32)) (by omega)
      omega
    rw [n4, n6]
    refine d2_lG (fun _ => d2_lL (fun v3 e3 => d2_lG (fun _ => d2_lL (fun q5 e5 => d2_rG (fun _ => d2_rL (fun v5 f5 => d2_rG (fun _ => d2_rL (fun q7 f7 => ?_))))))))
    have ev : v3 = v5 := Int32.toInt_inj.mp (by rw [e3, f5]; exact (t2 i (by omega)).2)
    refine hkk (q5, x1, x3, x4 + 1) (q7, x1, x3, x4 + 1) ⟨rfl, rfl, h3 ▸ rfl, h4 ▸ rfl, rfl, ⟨i + 1, by omega, by show Int32.toInt (x4 + 1) = _; rw [ti_add h6 d1 (by omega) (by omega)]; omega⟩, ⟨?_, fun j hj => ⟨?_, ?_⟩, ?_, ?_⟩, ?_, ?_, ?_⟩
    · show Int32.toInt (q5.1 2 2) = Int32.toInt (q7.1 2 29)
      rw [e5, cui_o (by decide), f7, dui_n (by omega)]; exact t1
    · show Int32.toInt (q5.1 (2 + 1) j) = Int32.toInt (q7.1 2 j)
      rw [e5, cui_o (by decide), f7, dui_n (by omega)]; exact (t2 j hj).1
    · show Int32.toInt (q5.1 (2 + 2) j) = Int32.toInt (q7.1 2 (6 + j))
      rw [e5, f7]
      by_cases cj : j = i
      · rw [cj, cui_e, dui_e, ev]
      · rw [cui_n cj, dui_n (by omega)]; exact (t2 j hj).2
    · show Int32.toInt (q5.1 2 3) = Int32.toInt (q7.1 2 12)
      rw [e5, cui_o (by decide), f7, dui_n (by omega)]; exact t3
    · show Int32.toInt (q5.1 2 4) = Int32.toInt (q7.1 2 13)
      rw [e5, cui_o (by decide), f7, dui_n (by omega)]; exact t4
    · show kR [2, 3, 4, 19, 21] q0 q5
      rw [e5]; exact kR_i2 h8 (by decide)
    · show mR q20 q7
      rw [f7]; exact h9.i (by omega)
    · show q5.1 2 3 = _
      rw [e5, cui_o (by decide)]; exact h10
theorem jx_48_s2 (q0 : dK) (q20 : dS) (p1 r4 : Int32) {k : Nat} (hp : Int32.toInt p1 = (k : Int)) (hk1 : 1 ≤ k) (hk : k ≤ 6) (hr : 0 ≤ Int32.toInt r4 ∧ Int32.toInt r4 ≤ 99) (hpd : 0 ≤ Int32.toInt (q0.1 2 3) ∧ Int32.toInt (q0.1 2 3) ≤ 16383) (ht : TWR 2 q0 (q20.1 2)) : d2 (zX8_turnTop_s2_s20_48 dF q0 p1 r4 0 (p1 - 1 : Int32)) (zX10_turns_30 dF q20 p1 r4 0) (fun o o2 => o.1 = r4 ∧ o2.1 = r4 ∧ TWR 2 o.2 (o2.2.1 2) ∧ kR [2, 3, 4, 19, 21] q0 o.2 ∧ mR q20 o2.2) := by
  have d0 : Int32.toInt 0 = 0 := by decide
  have d1 : Int32.toInt 1 = 1 := by decide
  have d2' : Int32.toInt 2 = 2 := by decide
  have dm : Int32.toInt (-1) = -1 := by decide
  obtain ⟨pm, hpm⟩ : ∃ y : Int32, (p1 - 1 : Int32) = y := ⟨_, rfl⟩
  have tm : Int32.toInt pm = (k : Int) - 1 := by rw [← hpm]; exact ti_sub hp d1 (by omega) (by omega)
  rw [hpm]
  unfold zX8_turnTop_s2_s20_48 zX10_turns_30
  refine d2_fix (fun (a : dK × Int32 × Int32 × Int32 × Int32) (a2 : dS × Int32 × Int32 × Int32) => a.2.1 = p1 ∧ a.2.2.1 = r4 ∧ a2.2.1 = p1 ∧ a2.2.2.1 = r4 ∧ (∃ i : Nat, 2 * i ≤ k ∧ Int32.toInt a.2.2.2.1 = (i : Int) ∧ Int32.toInt a2.2.2.2 = (i : Int) ∧ Int32.toInt a.2.2.2.2 = (k : Int) - 1 - (i : Int)) ∧ TWR 2 a.1 (a2.1.1 2) ∧ kR [2, 3, 4, 19, 21] q0 a.1 ∧ mR q20 a2.1 ∧ a.1.1 2 3 = q0.1 2 3) ?_ dF dF _ _ ⟨rfl, rfl, rfl, rfl, ⟨0, by omega, d0, d0, by show Int32.toInt pm = _; omega⟩, ht, kR.rf, mR.rf, rfl⟩
  intro k1 k2 hkk a a2 ha
  obtain ⟨qa, x1, x3, x4, x5⟩ := a
  obtain ⟨qb, y1, y3, y4⟩ := a2
  obtain ⟨h1, h2, h3, h4, ⟨i, hi, h5, h6, h11⟩, h7, h8, h9, h10⟩ := ha
  replace h1 : x1 = p1 := h1
  replace h2 : x3 = r4 := h2
  replace h3 : y1 = p1 := h3
  replace h4 : y3 = r4 := h4
  replace h5 : Int32.toInt x4 = (i : Int) := h5
  replace h6 : Int32.toInt y4 = (i : Int) := h6
  replace h11 : Int32.toInt x5 = (k : Int) - 1 - (i : Int) := h11
  replace h7 : TWR 2 qa (qb.1 2) := h7
  replace h8 : kR [2, 3, 4, 19, 21] q0 qa := h8
  replace h9 : mR q20 qb := h9
  replace h10 : qa.1 2 3 = q0.1 2 3 := h10
  subst h1 h2
  rw [h3, h4]
  show d2 (zX8_turnTop_s2_s20_48b (fun q x1 x3 x4 x5 => k1 (q, x1, x3, x4, x5)) qa x1 x3 x4 x5) (zX10_turns_30b (fun q x1 x2 x3 => k2 (q, x1, x2, x3)) qb x1 x3 y4) _
  have t2y : Int32.toInt (2 * y4 : Int32) = 2 * (i : Int) := ti_mul d2' h6 (by omega) (by omega)
  unfold zX8_turnTop_s2_s20_48b zX10_turns_30b
  rw [hpm]
  refine d2_lif (fun c => ?_) (fun c => ?_)
  · have c1 := Int32.le_iff_toInt_le.mp c
    refine d2_rif (fun _ => ?_) (fun z => absurd (Int32.le_iff_toInt_le.mpr (by omega)) z)
    refine d2_mono (jx_75_s2 qa qb x1 x3 hp hk hr (by rw [h10]; exact hpd) h7) (fun o o2 z => ⟨z.1, z.2.1, z.2.2.1, h8.t z.2.2.2.1, h9.t z.2.2.2.2⟩)
  · have c1 : ¬ Int32.toInt x5 ≤ Int32.toInt x4 := fun z => c (Int32.le_iff_toInt_le.mpr z)
    refine d2_rif (fun z => by have := Int32.le_iff_toInt_le.mp z; omega) (fun _ => ?_)
    have ty : Int32.toInt (pm - y4 : Int32) = ((k - 1 - i : Nat) : Int) := by rw [ti_sub tm h6 (by omega) (by omega)]; omega
    refine d2_VV (jx_exch_s2 qa qb x4 x5 y4 (pm - y4 : Int32) (a := i) (b := k - 1 - i) h5 (by omega) h6 ty (by omega) (by omega) h7) (fun q3 q23 z => ?_)
    obtain ⟨z1, z2, z3, z4⟩ := z
    refine hkk (q3, x1, x3, x4 + 1, x5 + (-1)) (q23, x1, x3, y4 + 1) ⟨rfl, rfl, h3 ▸ rfl, h4 ▸ rfl, ⟨i + 1, by omega, ?_, ?_, ?_⟩, z1, h8.t z2, h9.t z3, ?_⟩
    · show Int32.toInt (x4 + 1) = _
      rw [ti_add h5 d1 (by omega) (by omega)]; omega
    · show Int32.toInt (y4 + 1) = _
      rw [ti_add h6 d1 (by omega) (by omega)]; omega
    · show Int32.toInt (x5 + (-1)) = _
      rw [ti_add h11 dm (by omega) (by omega)]; omega
    · show q3.1 2 3 = _
      rw [z4 3, h10]
theorem kf_R15 {q o : dK} (h : kfr q o) : kR [15, 16, 17, 19, 21] q o := ⟨fun j k h1 h2 => h.1 j k (fun z => h1 (by rw [z]; decide)) (fun z => h1 (by rw [z]; decide)) h2, h.2⟩
theorem kR_i15 {q o : dK} {j k : Nat} {v : Int32} (h : kR [15, 16, 17, 19, 21] q o) (hj : j ∈ [15, 16, 17, 19, 21]) (h21 : ¬ 21 = j := by decide) : kR [15, 16, 17, 19, 21] q (cui o j k v) := ⟨fun a b h1 h2 => by rw [cui_o (fun z => h1 (by rw [z]; exact hj))]; exact h.1 a b h1 h2, h.2.1, by rw [cui_o h21]; exact h.2.2⟩
theorem TWR_k15 {q o : dK} {R : Nat → Int32} (h : TWR 15 q R) (k : kfr q o) : TWR 15 o R := by
  unfold TWR at h ⊢
  rw [k.1 15 2 (by decide) (by decide) (by decide), k.1 15 3 (by decide) (by decide) (by decide), k.1 15 4 (by decide) (by decide) (by decide)]
  exact ⟨h.1, fun i hi => by rw [k.1 (15 + 1) i (by decide) (by decide) (by omega), k.1 (15 + 2) i (by decide) (by decide) (by omega)]; exact h.2.1 i hi, h.2.2⟩
theorem jx_exch_s15 (q : dK) (q2 : dS) (p1 p2 r1 r2 : Int32) {a b : Nat} (h1 : Int32.toInt p1 = (a : Int)) (h2 : Int32.toInt p2 = (b : Int)) (h3 : Int32.toInt r1 = (a : Int)) (h4 : Int32.toInt r2 = (b : Int)) (ha : a < 6) (hb : b < 6) (ht : TWR 15 q (q2.1 2)) : d2 (zX8_exchange_s15 q p1 p2) (zX10_exchanges q2 r1 r2) (fun o o2 => TWR 15 o (o2.1 2) ∧ kR [15, 16, 17, 19, 21] q o ∧ mR q2 o2 ∧ (∀ k : Nat, o.1 15 k = q.1 15 k)) := by
  have d0 : Int32.toInt 0 = 0 := by decide
  have d6 : Int32.toInt 6 = 6 := by decide
  obtain ⟨t1, t2, t3, t4⟩ := ht
  have n1 : Int32.toNatClampNeg p1 = a := by have n := cl_eq (i := p1) (by omega); omega
  have n2 : Int32.toNatClampNeg p2 = b := by have n := cl_eq (i := p2) (by omega); omega
  have m1 : Int32.toNatClampNeg (0 + r1 : Int32) = a := by
    have z : Int32.toInt (0 + r1 : Int32) = 0 + (a : Int) := ti_add d0 h3 (by omega) (by omega)
    have n := cl_eq (i := (0 + r1 : Int32)) (by omega)
    omega
  have m2 : Int32.toNatClampNeg (0 + r2 : Int32) = b := by
    have z : Int32.toInt (0 + r2 : Int32) = 0 + (b : Int) := ti_add d0 h4 (by omega) (by omega)
    have n := cl_eq (i := (0 + r2 : Int32)) (by omega)
    omega
  have m3 : Int32.toNatClampNeg (6 + r1 : Int32) = 6 + a := by
    have z : Int32.toInt (6 + r1 : Int32) = 6 + (a : Int) := ti_add d6 h3 (by omega) (by omega)
    have n := cl_eq (i := (6 + r1 : Int32)) (by omega)
    omega
  have m4 : Int32.toNatClampNeg (6 + r2 : Int32) = 6 + b := by
    have z : Int32.toInt (6 + r2 : Int32) = 6 + (b : Int) := ti_add d6 h4 (by omega) (by omega)
    have n := cl_eq (i := (6 + r2 : Int32)) (by omega)
    omega
  unfold zX8_exchange_s15 zX10_exchanges
  rw [n1, n2, m1, m2, m3, m4]
  refine d2_lG (fun _ => d2_lL (fun v2 e2 => d2_lG (fun _ => d2_lL (fun v4 e4 => d2_lG (fun _ => d2_lL (fun v6 e6 => d2_lG (fun _ => d2_lL (fun q8 e8 => d2_lG (fun _ => d2_lL (fun v10 e10 => d2_lG (fun _ => d2_lL (fun q12 e12 => d2_lG (fun _ => d2_lL (fun q14 e14 => d2_lG (fun _ => d2_lL (fun q16 e16 => ?_))))))))))))))))
  refine d2_rG (fun _ => d2_rL (fun u2 f2 => d2_rG (fun _ => d2_rL (fun u4 f4 => d2_rG (fun _ => d2_rL (fun u6 f6 => d2_rG (fun _ => d2_rL (fun s8 f8 => d2_rG (fun _ => d2_rL (fun u10 f10 => d2_rG (fun _ => d2_rL (fun s12 f12 => d2_rG (fun _ => d2_rL (fun s14 f14 => d2_rG (fun _ => d2_rL (fun s16 f16 => d2_some ?_))))))))))))))))
  have ia := t2 a ha
  have ib := t2 b hb
  rw [e8, cui_o (by decide)] at e10
  rw [f8, dui_n (by omega)] at f10
  have hT : ∀ k : Nat, q16.1 15 k = q.1 15 k := fun k => by rw [e16, cui_o (by decide), e14, cui_o (by decide), e12, cui_o (by decide), e8, cui_o (by decide)]
  have hM : ∀ k : Nat, 12 ≤ k → s16.1 2 k = q2.1 2 k := fun k hk => by rw [f16, dui_n (by omega), f14, dui_n (by omega), f12, dui_n (by omega), f8, dui_n (by omega)]
  refine ⟨⟨by rw [hT, hM 29 (by decide)]; exact t1, fun i hi => ⟨?_, ?_⟩, by rw [hT, hM 12 (by decide)]; exact t3, by rw [hT, hM 13 (by decide)]; exact t4⟩, ?_, ?_, hT⟩
  · show Int32.toInt (q16.1 16 i) = Int32.toInt (s16.1 2 i)
    rw [e16, cui_o (by decide), e14, f16, dui_n (by omega), f14]
    by_cases c : i = b
    · rw [c, cui_e, dui_e, e2, f2]; exact ia.1
    · rw [cui_n c, dui_n c, e12, cui_o (by decide), e8, f12, dui_n (by omega), f8]
      by_cases c2 : i = a
      · rw [c2, cui_e, dui_e, e6, f6]; exact ib.1
      · rw [cui_n c2, dui_n c2]; exact (t2 i hi).1
  · show Int32.toInt (q16.1 17 i) = Int32.toInt (s16.1 2 (6 + i))
    rw [e16, f16]
    by_cases c : i = b
    · rw [c, cui_e, dui_e, e4, f4]; exact ia.2
    · rw [cui_n c, dui_n (by omega), e14, cui_o (by decide), e12, f14, dui_n (by omega), f12]
      by_cases c2 : i = a
      · rw [c2, cui_e, dui_e, e10, f10]; exact ib.2
      · rw [cui_n c2, dui_n (by omega), e8, cui_o (by decide), f8, dui_n (by omega)]; exact (t2 i hi).2
  · rw [e16, e14, e12, e8]
    exact kR_i15 (kR_i15 (kR_i15 (kR_i15 kR.rf (by decide)) (by decide)) (by decide)) (by decide)
  · rw [f16, f14, f12, f8]
    exact (((mR.rf.i (by omega)).i (by omega)).i (by omega)).i (by omega)
/-- the heads of the top k change; what was paid is told -/
theorem jx_75_s15 (q0 : dK) (q20 : dS) (p1 r4 : Int32) {k : Nat} (hp : Int32.toInt p1 = (k : Int)) (hk : k ≤ 6) (hr : 0 ≤ Int32.toInt r4 ∧ Int32.toInt r4 ≤ 99) (hpd : 0 ≤ Int32.toInt (q0.1 15 3) ∧ Int32.toInt (q0.1 15 3) ≤ 16383) (ht : TWR 15 q0 (q20.1 2)) : d2 (zX8_turnTop_s15_s20_75 dF q0 p1 r4 0) (zX10_turns_57 dF q20 p1 r4 0) (fun o o2 => o.1 = r4 ∧ o2.1 = r4 ∧ TWR 15 o.2 (o2.2.1 2) ∧ kR [15, 16, 17, 19, 21] q0 o.2 ∧ mR q20 o2.2) := by
  have d0 : Int32.toInt 0 = 0 := by decide
  have d1 : Int32.toInt 1 = 1 := by decide
  have d6 : Int32.toInt 6 = 6 := by decide
  have d9 : Int32.toInt 9999 = 9999 := by decide
  unfold zX8_turnTop_s15_s20_75 zX10_turns_57
  refine d2_fix (fun (a : dK × Int32 × Int32 × Int32) (a2 : dS × Int32 × Int32 × Int32) => a.2.1 = p1 ∧ a.2.2.1 = r4 ∧ a2.2.1 = p1 ∧ a2.2.2.1 = r4 ∧ a.2.2.2 = a2.2.2.2 ∧ (∃ i : Nat, i ≤ k ∧ Int32.toInt a.2.2.2 = (i : Int)) ∧ TWR 15 a.1 (a2.1.1 2) ∧ kR [15, 16, 17, 19, 21] q0 a.1 ∧ mR q20 a2.1 ∧ a.1.1 15 3 = q0.1 15 3) ?_ dF dF _ _ ⟨rfl, rfl, rfl, rfl, rfl, ⟨0, Nat.zero_le _, d0⟩, ht, kR.rf, mR.rf, rfl⟩
  intro k1 k2 hkk a a2 ha
  obtain ⟨qa, x1, x3, x4⟩ := a
  obtain ⟨qb, y1, y3, y4⟩ := a2
  obtain ⟨h1, h2, h3, h4, h5, ⟨i, hi, h6⟩, h7, h8, h9, h10⟩ := ha
  replace h1 : x1 = p1 := h1
  replace h2 : x3 = r4 := h2
  replace h3 : y1 = p1 := h3
  replace h4 : y3 = r4 := h4
  replace h5 : x4 = y4 := h5
  replace h6 : Int32.toInt x4 = (i : Int) := h6
  replace h7 : TWR 15 qa (qb.1 2) := h7
  replace h8 : kR [15, 16, 17, 19, 21] q0 qa := h8
  replace h9 : mR q20 qb := h9
  replace h10 : qa.1 15 3 = q0.1 15 3 := h10
  subst h1 h2 h5
  rw [h3, h4]
  obtain ⟨t1, t2, t3, t4⟩ := h7
  show d2 (zX8_turnTop_s15_s20_75b (fun q x1 x3 x4 => k1 (q, x1, x3, x4)) qa x1 x3 x4) (zX10_turns_57b (fun q x1 x2 x3 => k2 (q, x1, x2, x3)) qb x1 x3 x4) _
  unfold zX8_turnTop_s15_s20_75b zX10_turns_57b
  by_cases c : x1 ≤ x4
  · rw [if_pos c, if_pos c]
    unfold zX10_lesser zX10_lesser_10
    have hl : dAll (if ((qb.1 2 12) + x3 : Int32) ≤ 9999 then some ((qb.1 2 12) + x3 : Int32) else some 9999) (fun r => Int32.toInt r = if Int32.toInt (qb.1 2 12) + Int32.toInt x3 ≤ 9999 then Int32.toInt (qb.1 2 12) + Int32.toInt x3 else 9999) := by
      have ts : Int32.toInt ((qb.1 2 12) + x3 : Int32) = Int32.toInt (qb.1 2 12) + Int32.toInt x3 := ti_add rfl rfl (by rw [← t3, h10]; omega) (by rw [← t3, h10]; omega)
      exact dA_le (fun c => dA_some (by rw [if_pos (by omega), ts])) (fun c => dA_some (by rw [if_neg (by omega), d9]))
    refine d2_lL (fun q1 e1 => d2_rV hl (fun r1 hr1 => d2_rL (fun q3 e3 => d2_some ⟨rfl, rfl, ?_, ?_, ?_⟩)))
    · refine ⟨by rw [e1, cui_n (by decide), e3, dui_n (by decide)]; exact t1, fun i hi => ⟨?_, ?_⟩, ?_, by rw [e1, cui_n (by decide), e3, dui_n (by decide)]; exact t4⟩
      · show Int32.toInt (q1.1 (15 + 1) i) = Int32.toInt (q3.1 2 i)
        rw [e1, cui_o (by decide), e3, dui_n (by omega)]; exact (t2 i hi).1
      · show Int32.toInt (q1.1 (15 + 2) i) = Int32.toInt (q3.1 2 (6 + i))
        rw [e1, cui_o (by decide), e3, dui_n (by omega)]; exact (t2 i hi).2
      · rw [e1, cui_e, e3, dui_e, hr1, ← t3, h10]
        have ts : Int32.toInt ((q0.1 15 3) + x3 : Int32) = Int32.toInt (q0.1 15 3) + Int32.toInt x3 := ti_add rfl rfl (by omega) (by omega)
        have z := mn_le (a := 9999) (b := (q0.1 15 3) + x3)
        by_cases c9 : Int32.toInt (q0.1 15 3) + Int32.toInt x3 ≤ 9999
        · rw [if_pos c9]; omega
        · rw [if_neg c9]; omega
    · rw [e1]; exact kR_i15 h8 (by decide)
    · rw [e3]; exact h9.i (by decide)
  · rw [if_neg c, if_neg c]
    have cl : Int32.toInt x4 < Int32.toInt x1 := by
      have z : ¬ Int32.toInt x1 ≤ Int32.toInt x4 := fun z => c (Int32.le_iff_toInt_le.mpr z)
      omega
    have n4 : Int32.toNatClampNeg x4 = i := by have n := cl_eq (i := x4) (by omega); omega
    have n6 : Int32.toNatClampNeg (6 + x4 : Int32) = 6 + i := by
      have z : Int32.toInt (6 + x4 : Int32) = 6 + (i : Int) := ti_add d6 h6 (by omega) (by omega)
      have n := cl_eq (i := (6 + x4 : Int32)) (by omega)
      omega
    rw [n4, n6]
    refine d2_lG (fun _ => d2_lL (fun v3 e3 => d2_lG (fun _ => d2_lL (fun q5 e5 => d2_rG (fun _ => d2_rL (fun v5 f5 => d2_rG (fun _ => d2_rL (fun q7 f7 => ?_))))))))
    have ev : v3 = v5 := Int32.toInt_inj.mp (by rw [e3, f5]; exact (t2 i (by omega)).2)
    refine hkk (q5, x1, x3, x4 + 1) (q7, x1, x3, x4 + 1) ⟨rfl, rfl, h3 ▸ rfl, h4 ▸ rfl, rfl, ⟨i + 1, by omega, by show Int32.toInt (x4 + 1) = _; rw [ti_add h6 d1 (by omega) (by omega)]; omega⟩, ⟨?_, fun j hj => ⟨?_, ?_⟩, ?_, ?_⟩, ?_, ?_, ?_⟩
    · show Int32.toInt (q5.1 15 2) = Int32.toInt (q7.1 2 29)
      rw [e5, cui_o (by decide), f7, dui_n (by omega)]; exact t1
    · show Int32.toInt (q5.1 (15 + 1) j) = Int32.toInt (q7.1 2 j)
      rw [e5, cui_o (by decide), f7, dui_n (by omega)]; exact (t2 j hj).1
    · show Int32.toInt (q5.1 (15 + 2) j) = Int32.toInt (q7.1 2 (6 + j))
      rw [e5, f7]
      by_cases cj : j = i
      · rw [cj, cui_e, dui_e, ev]
      · rw [cui_n cj, dui_n (by omega)]; exact (t2 j hj).2
    · show Int32.toInt (q5.1 15 3) = Int32.toInt (q7.1 2 12)
      rw [e5, cui_o (by decide), f7, dui_n (by omega)]; exact t3
    · show Int32.toInt (q5.1 15 4) = Int32.toInt (q7.1 2 13)
      rw [e5, cui_o (by decide), f7, dui_n (by omega)]; exact t4
    · show kR [15, 16, 17, 19, 21] q0 q5
      rw [e5]; exact kR_i15 h8 (by decide)
    · show mR q20 q7
      rw [f7]; exact h9.i (by omega)
    · show q5.1 15 3 = _
      rw [e5, cui_o (by decide)]; exact h10
theorem jx_48_s15 (q0 : dK) (q20 : dS) (p1 r4 : Int32) {k : Nat} (hp : Int32.toInt p1 = (k : Int)) (hk1 : 1 ≤ k) (hk : k ≤ 6) (hr : 0 ≤ Int32.toInt r4 ∧ Int32.toInt r4 ≤ 99) (hpd : 0 ≤ Int32.toInt (q0.1 15 3) ∧ Int32.toInt (q0.1 15 3) ≤ 16383) (ht : TWR 15 q0 (q20.1 2)) : d2 (zX8_turnTop_s15_s20_48 dF q0 p1 r4 0 (p1 - 1 : Int32)) (zX10_turns_30 dF q20 p1 r4 0) (fun o o2 => o.1 = r4 ∧ o2.1 = r4 ∧ TWR 15 o.2 (o2.2.1 2) ∧ kR [15, 16, 17, 19, 21] q0 o.2 ∧ mR q20 o2.2) := by
  have d0 : Int32.toInt 0 = 0 := by decide
  have d1 : Int32.toInt 1 = 1 := by decide
  have d2' : Int32.toInt 2 = 2 := by decide
  have dm : Int32.toInt (-1) = -1 := by decide
  obtain ⟨pm, hpm⟩ : ∃ y : Int32, (p1 - 1 : Int32) = y := ⟨_, rfl⟩
  have tm : Int32.toInt pm = (k : Int) - 1 := by rw [← hpm]; exact ti_sub hp d1 (by omega) (by omega)
  rw [hpm]
  unfold zX8_turnTop_s15_s20_48 zX10_turns_30
  refine d2_fix (fun (a : dK × Int32 × Int32 × Int32 × Int32) (a2 : dS × Int32 × Int32 × Int32) => a.2.1 = p1 ∧ a.2.2.1 = r4 ∧ a2.2.1 = p1 ∧ a2.2.2.1 = r4 ∧ (∃ i : Nat, 2 * i ≤ k ∧ Int32.toInt a.2.2.2.1 = (i : Int) ∧ Int32.toInt a2.2.2.2 = (i : Int) ∧ Int32.toInt a.2.2.2.2 = (k : Int) - 1 - (i : Int)) ∧ TWR 15 a.1 (a2.1.1 2) ∧ kR [15, 16, 17, 19, 21] q0 a.1 ∧ mR q20 a2.1 ∧ a.1.1 15 3 = q0.1 15 3) ?_ dF dF _ _ ⟨rfl, rfl, rfl, rfl, ⟨0, by omega, d0, d0, by show Int32.toInt pm = _; omega⟩, ht, kR.rf, mR.rf, rfl⟩
  intro k1 k2 hkk a a2 ha
  obtain ⟨qa, x1, x3, x4, x5⟩ := a
  obtain ⟨qb, y1, y3, y4⟩ := a2
  obtain ⟨h1, h2, h3, h4, ⟨i, hi, h5, h6, h11⟩, h7, h8, h9, h10⟩ := ha
  replace h1 : x1 = p1 := h1
  replace h2 : x3 = r4 := h2
  replace h3 : y1 = p1 := h3
  replace h4 : y3 = r4 := h4
  replace h5 : Int32.toInt x4 = (i : Int) := h5
  replace h6 : Int32.toInt y4 = (i : Int) := h6
  replace h11 : Int32.toInt x5 = (k : Int) - 1 - (i : Int) := h11
  replace h7 : TWR 15 qa (qb.1 2) := h7
  replace h8 : kR [15, 16, 17, 19, 21] q0 qa := h8
  replace h9 : mR q20 qb := h9
  replace h10 : qa.1 15 3 = q0.1 15 3 := h10
  subst h1 h2
  rw [h3, h4]
  show d2 (zX8_turnTop_s15_s20_48b (fun q x1 x3 x4 x5 => k1 (q, x1, x3, x4, x5)) qa x1 x3 x4 x5) (zX10_turns_30b (fun q x1 x2 x3 => k2 (q, x1, x2, x3)) qb x1 x3 y4) _
  have t2y : Int32.toInt (2 * y4 : Int32) = 2 * (i : Int) := ti_mul d2' h6 (by omega) (by omega)
  unfold zX8_turnTop_s15_s20_48b zX10_turns_30b
  rw [hpm]
  refine d2_lif (fun c => ?_) (fun c => ?_)
  · have c1 := Int32.le_iff_toInt_le.mp c
    refine d2_rif (fun _ => ?_) (fun z => absurd (Int32.le_iff_toInt_le.mpr (by omega)) z)
    refine d2_mono (jx_75_s15 qa qb x1 x3 hp hk hr (by rw [h10]; exact hpd) h7) (fun o o2 z => ⟨z.1, z.2.1, z.2.2.1, h8.t z.2.2.2.1, h9.t z.2.2.2.2⟩)
  · have c1 : ¬ Int32.toInt x5 ≤ Int32.toInt x4 := fun z => c (Int32.le_iff_toInt_le.mpr z)
    refine d2_rif (fun z => by have := Int32.le_iff_toInt_le.mp z; omega) (fun _ => ?_)
    have ty : Int32.toInt (pm - y4 : Int32) = ((k - 1 - i : Nat) : Int) := by rw [ti_sub tm h6 (by omega) (by omega)]; omega
    refine d2_VV (jx_exch_s15 qa qb x4 x5 y4 (pm - y4 : Int32) (a := i) (b := k - 1 - i) h5 (by omega) h6 ty (by omega) (by omega) h7) (fun q3 q23 z => ?_)
    obtain ⟨z1, z2, z3, z4⟩ := z
    refine hkk (q3, x1, x3, x4 + 1, x5 + (-1)) (q23, x1, x3, y4 + 1) ⟨rfl, rfl, h3 ▸ rfl, h4 ▸ rfl, ⟨i + 1, by omega, ?_, ?_, ?_⟩, z1, h8.t z2, h9.t z3, ?_⟩
    · show Int32.toInt (x4 + 1) = _
      rw [ti_add h5 d1 (by omega) (by omega)]; omega
    · show Int32.toInt (y4 + 1) = _
      rw [ti_add h6 d1 (by omega) (by omega)]; omega
    · show Int32.toInt (x5 + (-1)) = _
      rw [ti_add h11 dm (by omega) (by omega)]; omega
    · show q3.1 15 3 = _
      rw [z4 3, h10]

