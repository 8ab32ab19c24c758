/-! calls told in one row -/
theorem d2_rA {α β γ δ ε ζ η : Type} {x : Option α} {y : Option (γ × δ)} {f : γ → δ → Option ε} {h : ε → Option (ζ × η)} {g : ζ → η → Option β} {P : α → β → Prop} (H : d2 x (dB (dB y (fun a b => dV (f a b) h)) g) P) : d2 x (dB y (fun a b => dV (f a b) (fun c => dB (h c) g))) P := by
  intro a b e1 e2
  refine H a b e1 ?_
  rw [← e2]
  cases y with
  | none => rfl
  | some o =>
    show dB (dV (f o.1 o.2) h) g = dV (f o.1 o.2) (fun c => dB (h c) g)
    cases f o.1 o.2 <;> rfl
theorem d2_rS {α β γ δ : Type} {x : Option α} {a : γ} {b : δ} {k : γ → δ → Option β} {P : α → β → Prop} (h : d2 x (k a b) P) : d2 x (dB (some (a, b)) k) P := h
theorem d2_lS {α β γ δ : Type} {x : Option β} {a : γ} {b : δ} {k : γ → δ → Option α} {P : α → β → Prop} (h : d2 (k a b) x P) : d2 (dB (some (a, b)) k) x P := h
theorem mf2.mR {q o : dS} (h : mf2 q o) : mR q o := mR.f2 h
theorem mf2.t {q o u : dS} (h : mf2 q o) (k : mf2 o u) : mf2 q u := ⟨fun j i h1 h2 => (k.1 j i h1 h2).trans (h.1 j i h1 h2), k.2.trans h.2⟩
theorem mf2.r2 {q o : dS} (h : mf2 q o) (k : Nat) : o.1 2 k = q.1 2 k := h.1 2 k (by decide) (by omega)
theorem kfr.t {q o u : dK} (h : kfr q o) (k : kfr o u) : kfr q u := ⟨fun j i h1 h2 h3 => (k.1 j i h1 h2 h3).trans (h.1 j i h1 h2 h3), k.2.1.trans h.2.1, k.2.2.trans h.2.2⟩
theorem kfr.rf {q : dK} : kfr q q := ⟨fun _ _ _ _ _ => rfl, rfl, rfl⟩
theorem mf2.rf {q : dS} : mf2 q q := ⟨fun _ _ _ _ => rfl, rfl⟩
/-! a year's bits -/
def pcN (m : Nat) : Nat → Nat
  | 0 => 0
  | n + 1 => pcN m n + (if m.testBit n then 1 else 0)
theorem bc_all : ∀ n : Fin 7, ∀ m : Fin 64, m.val < 2 ^ n.val → zJ6_bitCount_0f7a4 (Int32.ofNat m.val) = some (Int32.ofNat (pcN m.val n.val)) := by decide
theorem or_all : ∀ i : Fin 6, ∀ m : Fin 64, m.val < 2 ^ i.val → (Int32.ofNat m.val ||| ((1 : Int32) <<< ((Int32.ofNat i.val : Int32) &&& 31))) = Int32.ofNat (m.val + 2 ^ i.val) := by decide
theorem or0_all : ∀ i : Fin 6, ∀ m : Fin 64, (Int32.ofNat m.val ||| ((0 : Int32) <<< ((Int32.ofNat i.val : Int32) &&& 31))) = Int32.ofNat m.val := by decide
theorem xr_all : ∀ i : Fin 6, ∀ m : Fin 64, ((0 : Int32) ^^^ ((Int32.ofNat m.val >>> ((Int32.ofNat i.val : Int32) &&& 31)) &&& 1 : Int32)) = (if m.val.testBit i.val then 1 else 0) ∧ ((1 : Int32) ^^^ ((Int32.ofNat m.val >>> ((Int32.ofNat i.val : Int32) &&& 31)) &&& 1 : Int32)) = (if m.val.testBit i.val then 0 else 1) := by decide
theorem tb_add : ∀ i : Fin 6, ∀ m : Fin 64, m.val < 2 ^ i.val → (m.val + 2 ^ i.val).testBit i.val = true ∧ ∀ j : Fin 6, j.val < i.val → (m.val + 2 ^ i.val).testBit j.val = m.val.testBit j.val := by decide
theorem tb_no : ∀ i : Fin 6, ∀ m : Fin 64, m.val < 2 ^ i.val → m.val.testBit i.val = false := by decide
theorem p2_le : ∀ i : Fin 6, 2 ^ (i.val + 1) ≤ 64 ∧ 2 ^ (i.val + 1) = 2 ^ i.val + 2 ^ i.val := by decide
theorem nar01 {r : Int32} (h : r = 0 ∨ r = 1) : vp_nar .boolean r = r := by
  rcases h with h | h
  · rw [h]; decide
  · rw [h]; decide
theorem ofn_of {x : Int32} {i : Nat} (h : Int32.toInt x = (i : Int)) (hi : i < 64) : x = Int32.ofNat i := Int32.toInt_inj.mp (by
  rw [h]
  have z : ∀ j : Fin 64, Int32.toInt (Int32.ofNat j.val) = (j.val : Int) := by decide
  exact (z ⟨i, hi⟩).symm)
/-- a year: the reference's rows -/
def mP (q o : dS) : Prop := (∀ j k : Nat, ¬ j = 12 → ¬ j = 13 → ¬ (j = 0 ∧ 22 ≤ k ∧ k ≤ 25) → o.1 j k = q.1 j k) ∧ o.2 = q.2
def mQ (q o : dS) : Prop := (∀ j k : Nat, ¬ j = 2 → ¬ j = 12 → ¬ j = 13 → ¬ (j = 0 ∧ 22 ≤ k ∧ k ≤ 25) → o.1 j k = q.1 j k) ∧ (∀ k : Nat, 14 ≤ k → o.1 2 k = q.1 2 k) ∧ o.2 = q.2
theorem mP.t {q o u : dS} (h : mP q o) (k : mf2 o u) : mP q u := ⟨fun j i h1 h2 h3 => (k.1 j i h1 h3).trans (h.1 j i h1 h2 h3), k.2.trans h.2⟩
theorem mP.i {q o : dS} {k : Nat} {v : Int32} (h : mP q o) : mP q (dui o 13 k v) := ⟨fun j i h1 h2 h3 => by rw [dui_o h2]; exact h.1 j i h1 h2 h3, h.2⟩
theorem mP.q {q o : dS} (h : mP q o) : mQ q o := ⟨fun j k _ h2 h3 h4 => h.1 j k h2 h3 h4, fun k _ => h.1 2 k (by decide) (by decide) (by omega), h.2⟩
theorem mP.r2 {q o : dS} (h : mP q o) (k : Nat) : o.1 2 k = q.1 2 k := h.1 2 k (by decide) (by decide) (by omega)
theorem mQ.i {q o : dS} {k : Nat} {v : Int32} (h : mQ q o) (hk : k < 14) : mQ q (dui o 2 k v) := ⟨fun a b h1 h2 h3 h4 => by rw [dui_o h1]; exact h.1 a b h1 h2 h3 h4, fun i hi => by rw [dui_n (by omega)]; exact h.2.1 i hi, h.2.2⟩
theorem mR.q {q o : dS} (h : mR q o) : mQ q o := ⟨fun j k h1 h2 _ h4 => h.1 j k h1 h2 h4, h.2.1, h.2.2⟩
theorem mQ.t {q o u : dS} (h : mQ q o) (k : mQ o u) : mQ q u := ⟨fun j i h1 h2 h3 h4 => (k.1 j i h1 h2 h3 h4).trans (h.1 j i h1 h2 h3 h4), fun i hi => (k.2.1 i hi).trans (h.2.1 i hi), k.2.2.trans h.2.2⟩
/-- may it be turned -/
theorem jx_can_s2 (q : dK) (q2 : dS) (p : Int32) {k : Nat} (hp : Int32.toInt p = (k : Int)) (hk1 : 1 ≤ k) (hl : LRf q q2) (ht : TWR 2 q (q2.1 2)) (hm : Int32.toInt (q.1 21 8) = Int32.toInt (q2.1 2 27)) (hn : (k : Int) ≤ Int32.toInt (q.1 2 2)) (hn6 : Int32.toInt (q.1 2 2) ≤ 6) : d2 (zX1_bars_s20_s2 q p) (zX10_canTurn q2 p) (fun o o2 => ((o.1 = 0 ∧ o2.1 = 1) ∨ (o.1 = 1 ∧ o2.1 = 0)) ∧ kfr q o.2 ∧ mf2 q2 o2.2) := by
  have h29 := ht.1
  unfold zX10_canTurn zX10_size
  refine d2_rS (d2_rif (fun _ => d2_rA ?_) (fun c => absurd (Int32.le_iff_toInt_le.mpr (by omega)) c))
  intro a b e1 e2
  obtain ⟨r, o2, e3, e4⟩ := dB_some e2
  obtain ⟨z1, z2, z3, z4⟩ := jb_s2 q q2 p hp hk1 hl ht hm hn hn6 a (r, o2) e1 e3
  replace z1 : a.1 = r := z1
  replace z4 : mf2 q2 o2 := z4
  rcases z2 with z2 | z2
  · rw [if_pos (z1.symm.trans z2)] at e4
    unfold zX10_canTurn_46 at e4
    obtain ⟨-, e5⟩ := dG_some e4
    cases e5
    exact ⟨Or.inl ⟨z2, rfl⟩, z3, z4⟩
  · rw [if_neg (by rw [← z1, z2]; decide)] at e4
    unfold zX10_canTurn_46 at e4
    obtain ⟨-, e5⟩ := dG_some e4
    cases e5
    exact ⟨Or.inr ⟨z2, rfl⟩, z3, z4⟩
/-- turned -/
theorem jx_go_s2 (q : dK) (q2 : dS) (p : Int32) (hT : TC q) {k : Nat} (hp : Int32.toInt p = (k : Int)) (hk1 : 1 ≤ k) (hl : LRf q q2) (ht : TWR 2 q (q2.1 2)) (hm : Int32.toInt (q.1 21 8) = Int32.toInt (q2.1 2 27)) (hn : (k : Int) ≤ Int32.toInt (q.1 2 2)) : d2 (dB (zX1_payOf_s20_s2 q p) (fun r4 q6 => zX8_turnTop_s2_s20_48 dF q6 p r4 0 (p - 1 : Int32))) (zX10_turns q2 p) (fun o o2 => o.1 = o2.1 ∧ 0 ≤ Int32.toInt o.1 ∧ TWR 2 o.2 (o2.2.1 2) ∧ kR [2, 3, 4, 19, 21] q o.2 ∧ mR q2 o2.2) := by
  have c2 := hT.1 2 2
  have c2a : chi 2 2 = 6 := by decide
  have c3 := hT.1 2 3
  have c3a : clo 2 3 = 0 := by decide
  have c3b : chi 2 3 = 16383 := by decide
  unfold zX10_turns
  have hpj : d2 (zX1_payOf_s20_s2 q p) (dB (zX10_rankBelow q2 p) (fun r4 q6 => dV (zX10_setsTurn q6 p (q2.1 2 0) r4 (q6.1 2 6)) (fun q9 => zX10_paysNow q9))) (fun o o2 => (o.1 = o2.1 ∧ kfr q o.2 ∧ mf2 q2 o2.2) ∧ (TC o.2 ∧ cFr [19, 21] [(18, 1)] q o.2 ∧ (0 ≤ Int32.toInt o.1 ∧ Int32.toInt o.1 ≤ 99))) :=
    d2_x (dA_of (ok_X1_payOf_s20_s2 q p hT ⟨by omega, by omega⟩)) (d2_mono (jp_s2 q q2 p hp hk1 hl ht hm hn (by omega)) (fun a b z w => ⟨z, w⟩))
  refine d2_rA (d2_BB hpj (fun r4 q6 r7 q9 z => ?_))
  obtain ⟨⟨z1, z2, z3⟩, -, -, z5⟩ := z
  replace z1 : r4 = r7 := z1
  replace z2 : kfr q q6 := z2
  replace z3 : mf2 q2 q9 := z3
  replace z5 : 0 ≤ Int32.toInt r4 ∧ Int32.toInt r4 ≤ 99 := z5
  subst z1
  have e3 : q6.1 2 3 = q.1 2 3 := z2.1 2 3 (by decide) (by decide) (by decide)
  refine d2_mono (jx_48_s2 q6 q9 p r4 hp hk1 (by omega) z5 (by rw [e3]; omega) ((TWR_k2 ht z2).m (fun k => z3.r2 k))) (fun o o2 w => ?_)
  exact ⟨w.1.trans w.2.1.symm, by rw [w.1]; exact z5.1, w.2.2.1, (kf_R2 z2).t w.2.2.2.1, (mR.f2 z3).t w.2.2.2.2⟩
/-- a floor righted -/
theorem jx_right_s2 (q : dK) (q2 : dS) (p : Int32) {k : Nat} (hp : Int32.toInt p = (k : Int)) (hk : k < 6) (ht : TWR 2 q (q2.1 2)) : d2 (dG (dg p 6) (dL (q.1 4 (Int32.toNatClampNeg p)) (fun v5 => dG (dg p 6) (dL (cui q 4 (Int32.toNatClampNeg p) (1 - v5 : Int32)) (fun q7 => dG (dg p 6) (dL (q7.1 4 (Int32.toNatClampNeg p)) (fun v9 => some (v9, q7)))))))) (dG (dg (6 + p : Int32) 5640) (dL (q2.1 2 (Int32.toNatClampNeg (6 + p : Int32))) (fun v10 => dG (dg (6 + p : Int32) 5640) (dL (dui q2 2 (Int32.toNatClampNeg (6 + p : Int32)) (1 - v10 : Int32)) (fun q12 => dG (dg (6 + p : Int32) 5640) (dL (q12.1 2 (Int32.toNatClampNeg (6 + p : Int32))) (fun v14 => some (v14, q12)))))))) (fun o o2 => o.1 = o2.1 ∧ TWR 2 o.2 (o2.2.1 2) ∧ kR [2, 3, 4, 19, 21] q o.2 ∧ mR q2 o2.2) := by
  have d6 : Int32.toInt 6 = 6 := by decide
  have n1 : Int32.toNatClampNeg p = k := by have n := cl_eq (i := p) (by omega); omega
  have m1 : Int32.toNatClampNeg (6 + p : Int32) = 6 + k := by
    have z : Int32.toInt (6 + p : Int32) = 6 + (k : Int) := ti_add d6 hp (by omega) (by omega)
    have n := cl_eq (i := (6 + p : Int32)) (by omega)
    omega
  rw [n1, m1]
  refine d2_lG (fun _ => d2_lL (fun v2 e2 => d2_lG (fun _ => d2_lL (fun q7 e7 => d2_lG (fun _ => d2_lL (fun v9 e9 => ?_))))))
  refine d2_rG (fun _ => d2_rL (fun u2 f2 => d2_rG (fun _ => d2_rL (fun s7 f7 => d2_rG (fun _ => d2_rL (fun u9 f9 => d2_some ?_))))))
  obtain ⟨t1, t2, t3, t4⟩ := ht
  have ev : v2 = u2 := Int32.toInt_inj.mp (by rw [e2, f2]; exact (t2 k hk).2)
  refine ⟨?_, ⟨?_, fun j hj => ⟨?_, ?_⟩, ?_, ?_⟩, ?_, ?_⟩
  · show v9 = u9
    rw [e9, f9, e7, f7, cui_e, dui_e, ev]
  · show Int32.toInt (q7.1 2 2) = Int32.toInt (s7.1 2 29)
    rw [e7, cui_o (by decide), f7, dui_n (by omega)]; exact t1
  · show Int32.toInt (q7.1 (2 + 1) j) = Int32.toInt (s7.1 2 j)
    rw [e7, cui_o (by decide), f7, dui_n (by omega)]; exact (t2 j hj).1
  · show Int32.toInt (q7.1 (2 + 2) j) = Int32.toInt (s7.1 2 (6 + j))
    rw [e7, f7]
    by_cases cj : j = k
    · rw [cj, cui_e, dui_e, ev]
    · rw [cui_n cj, dui_n (by omega)]; exact (t2 j hj).2
  · show Int32.toInt (q7.1 2 3) = Int32.toInt (s7.1 2 12)
    rw [e7, cui_o (by decide), f7, dui_n (by omega)]; exact t3
  · show Int32.toInt (q7.1 2 4) = Int32.toInt (s7.1 2 13)
    rw [e7, cui_o (by decide), f7, dui_n (by omega)]; exact t4
  · show kR [2, 3, 4, 19, 21] q q7
    rw [e7]; exact kR_i2 kR.rf (by decide)
  · show mR q2 s7
    rw [f7]; exact mR.rf.i (by omega)
/-- neighbours -/
theorem jx_swap_s2 (q : dK) (q2 : dS) (p : Int32) {k : Nat} (hp : Int32.toInt p = (k : Int)) (hk : k < 5) (ht : TWR 2 q (q2.1 2)) : d2 (dV (zX8_exchange_s2 q p (p + 1 : Int32)) (fun q6 => dG (dg p 6) (dL (q6.1 3 (Int32.toNatClampNeg p)) (fun v8 => some (v8, q6))))) (dV (zX10_exchanges q2 p (p + 1 : Int32)) (fun q11 => dG (dg (0 + p : Int32) 5640) (dL (q11.1 2 (Int32.toNatClampNeg (0 + p : Int32))) (fun v13 => some (v13, q11))))) (fun o o2 => o.1 = o2.1 ∧ TWR 2 o.2 (o2.2.1 2) ∧ kR [2, 3, 4, 19, 21] q o.2 ∧ mR q2 o2.2) := by
  have d0 : Int32.toInt 0 = 0 := by decide
  have d1 : Int32.toInt 1 = 1 := by decide
  have h1 : Int32.toInt (p + 1 : Int32) = ((k + 1 : Nat) : Int) := by rw [ti_add hp d1 (by omega) (by omega)]; omega
  refine d2_VV (jx_exch_s2 q q2 p (p + 1) p (p + 1) hp h1 hp h1 (by omega) (by omega) ht) (fun c c2 z => ?_)
  have n1 : Int32.toNatClampNeg p = k := by have n := cl_eq (i := p) (by omega); omega
  have m1 : Int32.toNatClampNeg (0 + p : Int32) = k := by
    have z : Int32.toInt (0 + p : Int32) = 0 + (k : Int) := ti_add d0 hp (by omega) (by omega)
    have n := cl_eq (i := (0 + p : Int32)) (by omega)
    omega
  rw [n1, m1]
  obtain ⟨z1, z2, z3, -⟩ := z
  refine d2_lG (fun _ => d2_lL (fun v2 e2 => d2_rG (fun _ => d2_rL (fun u2 f2 => d2_some ⟨?_, z1, z2, z3⟩))))
  show v2 = u2
  exact Int32.toInt_inj.mp (by rw [e2, f2]; exact (z1.2.1 k (by omega)).1)
/-- a year: what tips, one after the other; then all at once -/
theorem jx_47_s2 (q0 : dK) (q20 : dS) (m n : Nat) (hm : m < 64) (hmn : m < 2 ^ n) (hn : Int32.toInt (q0.1 2 2) = (n : Int)) (hn6 : n ≤ 6) (hb : ∀ j : Nat, j < n → (m.testBit j = true ↔ ¬ q20.1 13 j = 0)) (hh : ∀ j : Nat, j < 6 → q0.1 4 j = 0 ∨ q0.1 4 j = 1) (hy : 0 ≤ Int32.toInt (q0.1 2 4) ∧ Int32.toInt (q0.1 2 4) ≤ 1023) (ht : TWR 2 q0 (q20.1 2)) : d2 (zX8_passYear_s2_s20_47 dF q0 (Int32.ofNat m) 0) (zX10_yearPasses_31 dF q20 0 0) (fun o o2 => o.1 = o2.1 ∧ 0 ≤ Int32.toInt o.1 ∧ TWR 2 o.2 (o2.2.1 2) ∧ kR [2, 3, 4, 19, 21] q0 o.2 ∧ mQ q20 o2.2) := by
  have d0 : Int32.toInt 0 = 0 := by decide
  have d1 : Int32.toInt 1 = 1 := by decide
  have d6 : Int32.toInt 6 = 6 := by decide
  unfold zX8_passYear_s2_s20_47 zX10_yearPasses_31
  refine d2_fix (fun (a : dK × Int32 × Int32) (a2 : dS × Int32 × Int32) => a.2.1 = Int32.ofNat m ∧ a.2.2 = a2.2.2 ∧ (∃ i : Nat, i ≤ n ∧ Int32.toInt a.2.2 = (i : Int) ∧ Int32.toInt a2.2.1 = (pcN m i : Nat) ∧ pcN m i ≤ i ∧ ∀ j : Nat, i ≤ j → j < 6 → a.1.1 4 j = 0 ∨ a.1.1 4 j = 1) ∧ TWR 2 a.1 (a2.1.1 2) ∧ kR [2, 3, 4, 19, 21] q0 a.1 ∧ mQ q20 a2.1 ∧ (∀ k : Nat, a.1.1 2 k = q0.1 2 k) ∧ ∀ k : Nat, a2.1.1 13 k = q20.1 13 k) ?_ dF dF _ _ ⟨rfl, rfl, ⟨0, Nat.zero_le _, d0, d0, Nat.le_refl _, fun j _ hj => hh j hj⟩, ht, kR.rf, ⟨fun _ _ _ _ _ _ => rfl, fun _ _ => rfl, rfl⟩, fun _ => rfl, fun _ => rfl⟩
  intro k1 k2 hkk a a2 ha
  obtain ⟨qa, x2, x3⟩ := a
  obtain ⟨qb, y1, y2⟩ := a2
  obtain ⟨h1, h2, ⟨i, hi, h3, h4, h5, h6⟩, h7, h8, h9, h10, h11⟩ := ha
  replace h1 : x2 = Int32.ofNat m := h1
  replace h2 : x3 = y2 := h2
  replace h3 : Int32.toInt x3 = (i : Int) := h3
  replace h4 : Int32.toInt y1 = (pcN m i : Nat) := h4
  replace h6 : ∀ j : Nat, i ≤ j → j < 6 → qa.1 4 j = 0 ∨ qa.1 4 j = 1 := h6
  replace h7 : TWR 2 qa (qb.1 2) := h7
  replace h8 : kR [2, 3, 4, 19, 21] q0 qa := h8
  replace h9 : mQ q20 qb := h9
  replace h10 : ∀ k : Nat, qa.1 2 k = q0.1 2 k := h10
  replace h11 : ∀ k : Nat, qb.1 13 k = q20.1 13 k := h11
  subst h2
  obtain ⟨t1, t2, t3, t4⟩ := h7
  show d2 (zX8_passYear_s2_s20_47b (fun q x2 x3 => k1 (q, x2, x3)) qa x2 x3) (zX10_yearPasses_31b (fun q x1 x2 => k2 (q, x1, x2)) qb y1 x3) _
  unfold zX8_passYear_s2_s20_47b zX10_yearPasses_31b zX10_size
  refine d2_rS ?_
  have e2 := h10 2
  refine d2_lif (fun c => ?_) (fun c => ?_)
  · have c1 := Int32.le_iff_toInt_le.mp c
    refine d2_rif (fun _ => ?_) (fun z => absurd (Int32.le_iff_toInt_le.mpr (by rw [← t1]; exact c1)) z)
    have ein : i = n := by rw [e2] at c1; omega
    have eb : zJ6_bitCount_0f7a4 x2 = some (Int32.ofNat (pcN m n)) := by rw [h1]; exact bc_all ⟨n, by omega⟩ ⟨m, hm⟩ hmn
    rw [eb]
    refine d2_lL (fun q1 e1 => d2_rL (fun q4 e4 => d2_some ?_))
    refine ⟨?_, ?_, ⟨?_, fun j hj => ⟨?_, ?_⟩, ?_, ?_⟩, ?_, ?_⟩
    · show Int32.ofNat (pcN m n) = y1
      rw [← ein]
      exact (ofn_of h4 (by omega)).symm
    · show 0 ≤ Int32.toInt (Int32.ofNat (pcN m n))
      rw [← ein, ← ofn_of h4 (by omega)]
      omega
    · show Int32.toInt (q1.1 2 2) = Int32.toInt (q4.1 2 29)
      rw [e1, cui_n (by decide), e4, dui_n (by decide)]; exact t1
    · show Int32.toInt (q1.1 (2 + 1) j) = Int32.toInt (q4.1 2 j)
      rw [e1, cui_o (by decide), e4, dui_n (by omega)]; exact (t2 j hj).1
    · show Int32.toInt (q1.1 (2 + 2) j) = Int32.toInt (q4.1 2 (6 + j))
      rw [e1, cui_o (by decide), e4, dui_n (by omega)]; exact (t2 j hj).2
    · show Int32.toInt (q1.1 2 3) = Int32.toInt (q4.1 2 12)
      rw [e1, cui_n (by decide), e4, dui_n (by decide)]; exact t3
    · show Int32.toInt (q1.1 2 4) = Int32.toInt (q4.1 2 13)
      rw [e1, cui_e, e4, dui_e, h10 4]
      have ea := h10 4
      rw [ea] at t4
      rw [ti_add rfl d1 (by omega) (by omega), ti_add rfl d1 (by omega) (by omega)]
      omega
    · show kR [2, 3, 4, 19, 21] q0 q1
      rw [e1]; exact kR_i2 h8 (by decide)
    · show mQ q20 q4
      rw [e4]; exact h9.i (by decide)
  · have c1 : ¬ Int32.toInt (qa.1 2 2) ≤ Int32.toInt x3 := fun z => c (Int32.le_iff_toInt_le.mpr z)
    refine d2_rif (fun z => by have z2 := Int32.le_iff_toInt_le.mp z; omega) (fun _ => ?_)
    have hin : i < n := by rw [e2] at c1; omega
    have n1 : Int32.toNatClampNeg x3 = i := by have n := cl_eq (i := x3) (by omega); omega
    have m1 : Int32.toNatClampNeg (6 + x3 : Int32) = 6 + i := by
      have z : Int32.toInt (6 + x3 : Int32) = 6 + (i : Int) := ti_add d6 h3 (by omega) (by omega)
      have n := cl_eq (i := (6 + x3 : Int32)) (by omega)
      omega
    have ex : x3 = Int32.ofNat i := ofn_of h3 (by omega)
    rw [n1]
    refine d2_lG (fun _ => d2_lL (fun v5 e5 => d2_lG (fun _ => d2_lL (fun q7 e7 => d2_rG (fun _ => d2_rL (fun v6 f6 => ?_))))))
    have hv : v6 = q20.1 13 i := f6.trans (h11 i)
    have hbi := hb i hin
    have hsh : (v5 ^^^ ((x2 >>> ((x3 : Int32) &&& 31)) &&& 1 : Int32)) = (if m.testBit i then 1 - v5 else v5) := by
      have z := xr_all ⟨i, by omega⟩ ⟨m, hm⟩
      rw [h1, ex]
      rcases h6 i (Nat.le_refl _) (by omega) with z5 | z5
      · rw [e5, z5]
        refine z.1.trans ?_
        cases m.testBit i <;> decide
      · rw [e5, z5]
        refine z.2.trans ?_
        cases m.testBit i <;> decide
    have e5i : Int32.toInt v5 = Int32.toInt (qb.1 2 (6 + i)) := by rw [e5]; exact (t2 i (by omega)).2
    have e5j : v5 = qb.1 2 (6 + i) := Int32.toInt_inj.mp e5i
    have key : ∀ (w : Int32) (q4 : dS) (y : Int32), w = (if m.testBit i then 1 - v5 else v5) → q4 = dui qb 2 (6 + i) w → Int32.toInt y = (pcN m (i + 1) : Nat) → d2 (k1 (q7, x2, x3 + 1)) (k2 (q4, y, x3 + 1)) (fun o o2 => o.1 = o2.1 ∧ 0 ≤ Int32.toInt o.1 ∧ TWR 2 o.2 (o2.2.1 2) ∧ kR [2, 3, 4, 19, 21] q0 o.2 ∧ mQ q20 o2.2) := by
      intro w q4 y ew e4 ey
      refine hkk _ _ ⟨h1, rfl, ⟨i + 1, by omega, by show Int32.toInt (x3 + 1) = _; rw [ti_add h3 d1 (by omega) (by omega)]; omega, ey, ?_, fun j hj hj6 => ?_⟩, ⟨?_, fun j hj => ⟨?_, ?_⟩, ?_, ?_⟩, ?_, ?_, ?_, ?_⟩
      · show pcN m i + (if m.testBit i then 1 else 0) ≤ i + 1
        split <;> omega
      · show q7.1 4 j = 0 ∨ q7.1 4 j = 1
        rw [e7, cui_n (by omega)]; exact h6 j (by omega) hj6
      · show Int32.toInt (q7.1 2 2) = Int32.toInt (q4.1 2 29)
        rw [e7, cui_o (by decide), e4, dui_n (by omega)]; exact t1
      · show Int32.toInt (q7.1 (2 + 1) j) = Int32.toInt (q4.1 2 j)
        rw [e7, cui_o (by decide), e4, dui_n (by omega)]; exact (t2 j hj).1
      · show Int32.toInt (q7.1 (2 + 2) j) = Int32.toInt (q4.1 2 (6 + j))
        rw [e7, e4]
        by_cases cj : j = i
        · rw [cj, cui_e, dui_e, ew, hsh]
        · rw [cui_n cj, dui_n (by omega)]; exact (t2 j hj).2
      · show Int32.toInt (q7.1 2 3) = Int32.toInt (q4.1 2 12)
        rw [e7, cui_o (by decide), e4, dui_n (by omega)]; exact t3
      · show Int32.toInt (q7.1 2 4) = Int32.toInt (q4.1 2 13)
        rw [e7, cui_o (by decide), e4, dui_n (by omega)]; exact t4
      · show kR [2, 3, 4, 19, 21] q0 q7
        rw [e7]; exact kR_i2 h8 (by decide)
      · show mQ q20 q4
        rw [e4]; exact h9.i (by omega)
      · intro k
        show q7.1 2 k = _
        rw [e7, cui_o (by decide)]; exact h10 k
      · intro k
        show q4.1 13 k = _
        rw [e4, dui_o (by decide)]; exact h11 k
    refine d2_rif (fun c3 => ?_) (fun c3 => ?_)
    · have hf : m.testBit i = false := by
        cases hc : m.testBit i with
        | false => rfl
        | true => exact absurd (hv ▸ c3) (hbi.mp hc)
      rw [m1]
      refine d2_rG (fun _ => d2_rL (fun v8 f8 => ?_))
      unfold zX10_yearPasses_79 zX10_yearPasses_95
      rw [m1]
      refine d2_rG (fun _ => d2_rL (fun q2' f2 => d2_rG (fun _ => d2_rL (fun v4 f4 => ?_))))
      have f13 : v4 = v6 := by rw [f4, f2, dui_o (by decide), n1, f6]
      refine d2_rif (fun _ => ?_) (fun z => absurd (f13.trans c3) z)
      refine key v8 q2' (y1 + 0) (by rw [hf, f8, e5j]; rfl) f2 ?_
      rw [ti_add h4 d0 (by omega) (by omega)]
      show _ = ((pcN m i + (if m.testBit i then 1 else 0) : Nat) : Int)
      rw [hf]
      simp
    · have hf : m.testBit i = true := hbi.mpr (fun z => c3 (hv.trans z))
      rw [m1]
      refine d2_rG (fun _ => d2_rL (fun v8 f8 => ?_))
      unfold zX10_yearPasses_79 zX10_yearPasses_95
      rw [m1]
      refine d2_rG (fun _ => d2_rL (fun q2' f2 => d2_rG (fun _ => d2_rL (fun v4 f4 => ?_))))
      have f13 : v4 = v6 := by rw [f4, f2, dui_o (by decide), n1, f6]
      refine d2_rif (fun z => absurd (f13.symm.trans z) c3) (fun _ => ?_)
      refine key (1 - v8) q2' (y1 + 1) (by rw [hf, f8, e5j]; rfl) f2 ?_
      rw [ti_add h4 d1 (by omega) (by omega)]
      show _ = ((pcN m i + (if m.testBit i then 1 else 0) : Nat) : Int)
      rw [hf]
      simp
theorem jx_year_s2 (q0 : dK) (q20 : dS) (hT : TC q0) (hl : LRf q0 q20) (ht : TWR 2 q0 (q20.1 2)) (hmd : Int32.toInt (q0.1 21 8) = Int32.toInt (q20.1 2 27)) : d2 (zX8_passYear_s2_s20_17 dF q0 0 0) (zX10_yearPasses q20) (fun o o2 => o.1 = o2.1 ∧ 0 ≤ Int32.toInt o.1 ∧ TWR 2 o.2 (o2.2.1 2) ∧ kR [2, 3, 4, 19, 21] q0 o.2 ∧ mQ q20 o2.2) := by
  have d0 : Int32.toInt 0 = 0 := by decide
  have d1 : Int32.toInt 1 = 1 := by decide
  have c2 := hT.1 2 2
  have c2a : chi 2 2 = 6 := by decide
  have c2b : clo 2 2 = 0 := by decide
  have c4 := hT.1 2 4
  have c4a : clo 2 4 = 0 := by decide
  have c4b : chi 2 4 = 1023 := by decide
  obtain ⟨n, hn⟩ : ∃ n : Nat, Int32.toInt (q0.1 2 2) = (n : Int) := ⟨(Int32.toInt (q0.1 2 2)).toNat, by omega⟩
  have hh : ∀ j : Nat, j < 6 → q0.1 4 j = 0 ∨ q0.1 4 j = 1 := fun j _ => by
    have z := hT.1 4 j
    have za : clo 4 j = 0 := rfl
    have zb : chi 4 j = 1 := rfl
    by_cases c : Int32.toInt (q0.1 4 j) = 0
    · exact Or.inl (Int32.toInt_inj.mp (by omega))
    · exact Or.inr (Int32.toInt_inj.mp (by omega))
  unfold zX8_passYear_s2_s20_17 zX10_yearPasses zX10_yearPasses_4
  refine d2_fix (fun (a : dK × Int32 × Int32) (a2 : dS × Int32 × Int32) => a2.2.1 = 0 ∧ a.2.2 = a2.2.2 ∧ (∃ i m : Nat, i ≤ n ∧ Int32.toInt a.2.2 = (i : Int) ∧ a.2.1 = Int32.ofNat m ∧ m < 64 ∧ m < 2 ^ i ∧ ∀ j : Nat, j < i → (m.testBit j = true ↔ ¬ a2.1.1 13 j = 0)) ∧ kfr q0 a.1 ∧ mP q20 a2.1) ?_ dF dF _ _ ⟨rfl, rfl, ⟨0, 0, Nat.zero_le _, d0, rfl, by decide, by decide, fun j hj => absurd hj (by omega)⟩, kfr.rf, ⟨fun _ _ _ _ _ => rfl, rfl⟩⟩
  intro k1 k2 hkk a a2 ha
  obtain ⟨qa, x2, x3⟩ := a
  obtain ⟨qb, y1, y2⟩ := a2
  obtain ⟨h1, h2, ⟨i, m, hi, h3, h4, h5, h6, h7⟩, h8, h9⟩ := ha
  replace h1 : y1 = 0 := h1
  replace h2 : x3 = y2 := h2
  replace h3 : Int32.toInt x3 = (i : Int) := h3
  replace h4 : x2 = Int32.ofNat m := h4
  replace h7 : ∀ j : Nat, j < i → (m.testBit j = true ↔ ¬ qb.1 13 j = 0) := h7
  replace h8 : kfr q0 qa := h8
  replace h9 : mP q20 qb := h9
  subst h1 h2 h4
  have ht2 : TWR 2 qa (qb.1 2) := (TWR_k2 ht h8).m (fun k => h9.r2 k)
  have e2 : qa.1 2 2 = q0.1 2 2 := h8.1 2 2 (by decide) (by decide) (by decide)
  have e4 : qa.1 2 4 = q0.1 2 4 := h8.1 2 4 (by decide) (by decide) (by decide)
  have t1 := ht2.1
  show d2 (zX8_passYear_s2_s20_17b (fun q x2 x3 => k1 (q, x2, x3)) qa (Int32.ofNat m) x3) (zX10_yearPasses_4b (fun q x1 x2 => k2 (q, x1, x2)) qb 0 x3) _
  unfold zX8_passYear_s2_s20_17b zX10_yearPasses_4b zX10_size
  refine d2_rS ?_
  refine d2_lif (fun c => ?_) (fun c => ?_)
  · have c1 := Int32.le_iff_toInt_le.mp c
    refine d2_rif (fun _ => ?_) (fun z => absurd (Int32.le_iff_toInt_le.mpr (by rw [← t1]; exact c1)) z)
    have ein : i = n := by rw [e2] at c1; omega
    subst ein
    refine d2_mono (jx_47_s2 qa qb m i h5 h6 (by rw [e2]; exact hn) (by omega) h7 (fun j hj => by rw [h8.1 4 j (by decide) (by decide) (by omega)]; exact hh j hj) (by rw [e4]; omega) ht2) (fun o o2 z => ⟨z.1, z.2.1, z.2.2.1, (kf_R2 h8).t z.2.2.2.1, h9.q.t z.2.2.2.2⟩)
  · have c1 : ¬ Int32.toInt (qa.1 2 2) ≤ Int32.toInt x3 := fun z => c (Int32.le_iff_toInt_le.mpr z)
    refine d2_rif (fun z => by have z2 := Int32.le_iff_toInt_le.mp z; omega) (fun _ => ?_)
    have hin : i < n := by rw [e2] at c1; omega
    have n1 : Int32.toNatClampNeg x3 = i := by have n := cl_eq (i := x3) (by omega); omega
    have ex : x3 = Int32.ofNat i := ofn_of h3 (by omega)
    have hl2 : LRf qa qb := hl.s (h8.1 20 2 (by decide) (by decide) (by decide)) h8.2.1 (fun k _ => h9.r2 k)
    have hmd2 : Int32.toInt (qa.1 21 8) = Int32.toInt (qb.1 2 27) := by rw [h8.2.2, h9.r2 27]; exact hmd
    have tb := tb_add ⟨i, by omega⟩ ⟨m, h5⟩ h6
    have pl := p2_le ⟨i, by omega⟩
    replace pl : 2 ^ (i + 1) ≤ 64 ∧ 2 ^ (i + 1) = 2 ^ i + 2 ^ i := pl
    have tn := tb_no ⟨i, by omega⟩ ⟨m, h5⟩ h6
    replace tn : m.testBit i = false := tn
    refine d2_BB (jt_s2 qa qb x3 h3 (by omega) hl2 ht2 hmd2 (by rw [e2]; omega)) (fun r1 q3 r4 q6 z => ?_)
    obtain ⟨z1, z2, z3, z4⟩ := z
    replace z1 : r1 = r4 := z1
    replace z2 : r1 = 0 ∨ r1 = 1 := z2
    replace z3 : kfr qa q3 := z3
    replace z4 : mf2 qb q6 := z4
    subst z1
    have e13 : ∀ k : Nat, q6.1 13 k = qb.1 13 k := fun k => z4.1 13 k (by decide) (by omega)
    have hbit : dAll (zX9_bit r1) (fun r => r = r1) := by
      unfold zX9_bit zX9_bit_9
      rcases z2 with z2 | z2
      · rw [if_pos z2]; exact dA_some z2.symm
      · rw [if_neg (by rw [z2]; decide)]; exact dA_some z2.symm
    rw [n1]
    refine d2_lV hbit (fun r e5 => d2_rG (fun _ => d2_rL (fun q8 e8 => ?_)))
    subst e5
    rw [nar01 z2] at e8
    have hnx : Int32.toInt (x3 + 1) = ((i + 1 : Nat) : Int) := by rw [ti_add h3 d1 (by omega) (by omega)]; omega
    rcases z2 with z2 | z2
    · have eo : (Int32.ofNat m ||| (r <<< ((x3 : Int32) &&& 31))) = Int32.ofNat m := by rw [z2, ex]; exact or0_all ⟨i, by omega⟩ ⟨m, h5⟩
      rw [eo]
      refine hkk (q3, Int32.ofNat m, x3 + 1) (q8, 0, x3 + 1) ⟨rfl, rfl, ⟨i + 1, m, by omega, hnx, rfl, h5, by omega, fun j hj => ?_⟩, h8.t z3, ?_⟩
      · show m.testBit j = true ↔ ¬ q8.1 13 j = 0
        rw [e8]
        by_cases cj : j = i
        · rw [cj, dui_e, tn, z2]
          exact ⟨fun z => absurd z (by decide), fun z => absurd rfl z⟩
        · rw [dui_n cj, e13]; exact h7 j (by omega)
      · show mP q20 q8
        rw [e8]; exact (h9.t z4).i
    · have eo : (Int32.ofNat m ||| (r <<< ((x3 : Int32) &&& 31))) = Int32.ofNat (m + 2 ^ i) := by rw [z2, ex]; exact or_all ⟨i, by omega⟩ ⟨m, h5⟩ h6
      rw [eo]
      refine hkk (q3, Int32.ofNat (m + 2 ^ i), x3 + 1) (q8, 0, x3 + 1) ⟨rfl, rfl, ⟨i + 1, m + 2 ^ i, by omega, hnx, rfl, by omega, by omega, fun j hj => ?_⟩, h8.t z3, ?_⟩
      · show (m + 2 ^ i).testBit j = true ↔ ¬ q8.1 13 j = 0
        rw [e8]
        by_cases cj : j = i
        · rw [cj, dui_e, z2]
          exact ⟨fun _ => by decide, fun _ => tb.1⟩
        · have tj : (m + 2 ^ i).testBit j = m.testBit j := tb.2 ⟨j, by omega⟩ (by show j < i; omega)
          rw [dui_n cj, e13, tj]; exact h7 j (by omega)
      · show mP q20 q8
        rw [e8]; exact (h9.t z4).i
/-- may it be turned -/
theorem jx_can_s15 (q : dK) (q2 : dS) (p : Int32) {k : Nat} (hp : Int32.toInt p = (k : Int)) (hk1 : 1 ≤ k) (hl : LRf q q2) (ht : TWR 15 q (q2.1 2)) (hm : Int32.toInt (q.1 21 8) = Int32.toInt (q2.1 2 27)) (hn : (k : Int) ≤ Int32.toInt (q.1 15 2)) (hn6 : Int32.toInt (q.1 15 2) ≤ 6) : d2 (zX1_bars_s20_s15 q p) (zX10_canTurn q2 p) (fun o o2 => ((o.1 = 0 ∧ o2.1 = 1) ∨ (o.1 = 1 ∧ o2.1 = 0)) ∧ kfr q o.2 ∧ mf2 q2 o2.2) := by
  have h29 := ht.1
  unfold zX10_canTurn zX10_size
  refine d2_rS (d2_rif (fun _ => d2_rA ?_) (fun c => absurd (Int32.le_iff_toInt_le.mpr (by omega)) c))
  intro a b e1 e2
  obtain ⟨r, o2, e3, e4⟩ := dB_some e2
  obtain ⟨z1, z2, z3, z4⟩ := jb_s15 q q2 p hp hk1 hl ht hm hn hn6 a (r, o2) e1 e3
  replace z1 : a.1 = r := z1
  replace z4 : mf2 q2 o2 := z4
  rcases z2 with z2 | z2
  · rw [if_pos (z1.symm.trans z2)] at e4
    unfold zX10_canTurn_46 at e4
    obtain ⟨-, e5⟩ := dG_some e4
    cases e5
    exact ⟨Or.inl ⟨z2, rfl⟩, z3, z4⟩
  · rw [if_neg (by rw [← z1, z2]; decide)] at e4
    unfold zX10_canTurn_46 at e4
    obtain ⟨-, e5⟩ := dG_some e4
    cases e5
    exact ⟨Or.inr ⟨z2, rfl⟩, z3, z4⟩
/-- turned -/
theorem jx_go_s15 (q : dK) (q2 : dS) (p : Int32) (hT : TC q) {k : Nat} (hp : Int32.toInt p = (k : Int)) (hk1 : 1 ≤ k) (hl : LRf q q2) (ht : TWR 15 q (q2.1 2)) (hm : Int32.toInt (q.1 21 8) = Int32.toInt (q2.1 2 27)) (hn : (k : Int) ≤ Int32.toInt (q.1 15 2)) : d2 (dB (zX1_payOf_s20_s15 q p) (fun r4 q6 => zX8_turnTop_s15_s20_48 dF q6 p r4 0 (p - 1 : Int32))) (zX10_turns q2 p) (fun o o2 => o.1 = o2.1 ∧ 0 ≤ Int32.toInt o.1 ∧ TWR 15 o.2 (o2.2.1 2) ∧ kR [15, 16, 17, 19, 21] q o.2 ∧ mR q2 o2.2) := by
  have c2 := hT.1 15 2
  have c2a : chi 15 2 = 6 := by decide
  have c3 := hT.1 15 3
  have c3a : clo 15 3 = 0 := by decide
  have c3b : chi 15 3 = 16383 := by decide
  unfold zX10_turns
  have hpj : d2 (zX1_payOf_s20_s15 q p) (dB (zX10_rankBelow q2 p) (fun r4 q6 => dV (zX10_setsTurn q6 p (q2.1 2 0) r4 (q6.1 2 6)) (fun q9 => zX10_paysNow q9))) (fun o o2 => (o.1 = o2.1 ∧ kfr q o.2 ∧ mf2 q2 o2.2) ∧ (TC o.2 ∧ cFr [19, 21] [(18, 1)] q o.2 ∧ (0 ≤ Int32.toInt o.1 ∧ Int32.toInt o.1 ≤ 99))) :=
    d2_x (dA_of (ok_X1_payOf_s20_s15 q p hT ⟨by omega, by omega⟩)) (d2_mono (jp_s15 q q2 p hp hk1 hl ht hm hn (by omega)) (fun a b z w => ⟨z, w⟩))
  refine d2_rA (d2_BB hpj (fun r4 q6 r7 q9 z => ?_))
  obtain ⟨⟨z1, z2, z3⟩, -, -, z5⟩ := z
  replace z1 : r4 = r7 := z1
  replace z2 : kfr q q6 := z2
  replace z3 : mf2 q2 q9 := z3
  replace z5 : 0 ≤ Int32.toInt r4 ∧ Int32.toInt r4 ≤ 99 := z5
  subst z1
  have e3 : q6.1 15 3 = q.1 15 3 := z2.1 15 3 (by decide) (by decide) (by decide)
  refine d2_mono (jx_48_s15 q6 q9 p r4 hp hk1 (by omega) z5 (by rw [e3]; omega) ((TWR_k15 ht z2).m (fun k => z3.r2 k))) (fun o o2 w => ?_)
  exact ⟨w.1.trans w.2.1.symm, by rw [w.1]; exact z5.1, w.2.2.1, (kf_R15 z2).t w.2.2.2.1, (mR.f2 z3).t w.2.2.2.2⟩
/-- a floor righted -/
theorem jx_right_s15 (q : dK) (q2 : dS) (p : Int32) {k : Nat} (hp : Int32.toInt p = (k : Int)) (hk : k < 6) (ht : TWR 15 q (q2.1 2)) : d2 (dG (dg p 6) (dL (q.1 17 (Int32.toNatClampNeg p)) (fun v5 => dG (dg p 6) (dL (cui q 17 (Int32.toNatClampNeg p) (1 - v5 : Int32)) (fun q7 => dG (dg p 6) (dL (q7.1 17 (Int32.toNatClampNeg p)) (fun v9 => some (v9, q7)))))))) (dG (dg (6 + p : Int32) 5640) (dL (q2.1 2 (Int32.toNatClampNeg (6 + p : Int32))) (fun v10 => dG (dg (6 + p : Int32) 5640) (dL (dui q2 2 (Int32.toNatClampNeg (6 + p : Int32)) (1 - v10 : Int32)) (fun q12 => dG (dg (6 + p : Int32) 5640) (dL (q12.1 2 (Int32.toNatClampNeg (6 + p : Int32))) (fun v14 => some (v14, q12)))))))) (fun o o2 => o.1 = o2.1 ∧ TWR 15 o.2 (o2.2.1 2) ∧ kR [15, 16, 17, 19, 21] q o.2 ∧ mR q2 o2.2) := by
  have d6 : Int32.toInt 6 = 6 := by decide
  have n1 : Int32.toNatClampNeg p = k := by have n := cl_eq (i := p) (by omega); omega
  have m1 : Int32.toNatClampNeg (6 + p : Int32) = 6 + k := by
    have z : Int32.toInt (6 + p : Int32) = 6 + (k : Int) := ti_add d6 hp (by omega) (by omega)
    have n := cl_eq (i := (6 + p : Int32)) (by omega)
    omega
  rw [n1, m1]
  refine d2_lG (fun _ => d2_lL (fun v2 e2 => d2_lG (fun _ => d2_lL (fun q7 e7 => d2_lG (fun _ => d2_lL (fun v9 e9 => ?_))))))
  refine d2_rG (fun _ => d2_rL (fun u2 f2 => d2_rG (fun _ => d2_rL (fun s7 f7 => d2_rG (fun _ => d2_rL (fun u9 f9 => d2_some ?_))))))
  obtain ⟨t1, t2, t3, t4⟩ := ht
  have ev : v2 = u2 := Int32.toInt_inj.mp (by rw [e2, f2]; exact (t2 k hk).2)
  refine ⟨?_, ⟨?_, fun j hj => ⟨?_, ?_⟩, ?_, ?_⟩, ?_, ?_⟩
  · show v9 = u9
    rw [e9, f9, e7, f7, cui_e, dui_e, ev]
  · show Int32.toInt (q7.1 15 2) = Int32.toInt (s7.1 2 29)
    rw [e7, cui_o (by decide), f7, dui_n (by omega)]; exact t1
  · show Int32.toInt (q7.1 (15 + 1) j) = Int32.toInt (s7.1 2 j)
    rw [e7, cui_o (by decide), f7, dui_n (by omega)]; exact (t2 j hj).1
  · show Int32.toInt (q7.1 (15 + 2) j) = Int32.toInt (s7.1 2 (6 + j))
    rw [e7, f7]
    by_cases cj : j = k
    · rw [cj, cui_e, dui_e, ev]
    · rw [cui_n cj, dui_n (by omega)]; exact (t2 j hj).2
  · show Int32.toInt (q7.1 15 3) = Int32.toInt (s7.1 2 12)
    rw [e7, cui_o (by decide), f7, dui_n (by omega)]; exact t3
  · show Int32.toInt (q7.1 15 4) = Int32.toInt (s7.1 2 13)
    rw [e7, cui_o (by decide), f7, dui_n (by omega)]; exact t4
  · show kR [15, 16, 17, 19, 21] q q7
    rw [e7]; exact kR_i15 kR.rf (by decide)
  · show mR q2 s7
    rw [f7]; exact mR.rf.i (by omega)
/-- neighbours -/
theorem jx_swap_s15 (q : dK) (q2 : dS) (p : Int32) {k : Nat} (hp : Int32.toInt p = (k : Int)) (hk : k < 5) (ht : TWR 15 q (q2.1 2)) : d2 (dV (zX8_exchange_s15 q p (p + 1 : Int32)) (fun q6 => dG (dg p 6) (dL (q6.1 16 (Int32.toNatClampNeg p)) (fun v8 => some (v8, q6))))) (dV (zX10_exchanges q2 p (p + 1 : Int32)) (fun q11 => dG (dg (0 + p : Int32) 5640) (dL (q11.1 2 (Int32.toNatClampNeg (0 + p : Int32))) (fun v13 => some (v13, q11))))) (fun o o2 => o.1 = o2.1 ∧ TWR 15 o.2 (o2.2.1 2) ∧ kR [15, 16, 17, 19, 21] q o.2 ∧ mR q2 o2.2) := by
  have d0 : Int32.toInt 0 = 0 := by decide
  have d1 : Int32.toInt 1 = 1 := by decide
  have h1 : Int32.toInt (p + 1 : Int32) = ((k + 1 : Nat) : Int) := by rw [ti_add hp d1 (by omega) (by omega)]; omega
  refine d2_VV (jx_exch_s15 q q2 p (p + 1) p (p + 1) hp h1 hp h1 (by omega) (by omega) ht) (fun c c2 z => ?_)
  have n1 : Int32.toNatClampNeg p = k := by have n := cl_eq (i := p) (by omega); omega
  have m1 : Int32.toNatClampNeg (0 + p : Int32) = k := by
    have z : Int32.toInt (0 + p : Int32) = 0 + (k : Int) := ti_add d0 hp (by omega) (by omega)
    have n := cl_eq (i := (0 + p : Int32)) (by omega)
    omega
  rw [n1, m1]
  obtain ⟨z1, z2, z3, -⟩ := z
  refine d2_lG (fun _ => d2_lL (fun v2 e2 => d2_rG (fun _ => d2_rL (fun u2 f2 => d2_some ⟨?_, z1, z2, z3⟩))))
  show v2 = u2
  exact Int32.toInt_inj.mp (by rw [e2, f2]; exact (z1.2.1 k (by omega)).1)
/-- a year: what tips, one after the other; then all at once -/
theorem jx_47_s15 (q0 : dK) (q20 : dS) (m n : Nat) (hm : m < 64) (hmn : m < 2 ^ n) (hn : Int32.toInt (q0.1 15 2) = (n : Int)) (hn6 : n ≤ 6) (hb : ∀ j : Nat, j < n → (m.testBit j = true ↔ ¬ q20.1 13 j = 0)) (hh : ∀ j : Nat, j < 6 → q0.1 17 j = 0 ∨ q0.1 17 j = 1) (hy : 0 ≤ Int32.toInt (q0.1 15 4) ∧ Int32.toInt (q0.1 15 4) ≤ 1023) (ht : TWR 15 q0 (q20.1 2)) : d2 (zX8_passYear_s15_s20_47 dF q0 (Int32.ofNat m) 0) (zX10_yearPasses_31 dF q20 0 0) (fun o o2 => o.1 = o2.1 ∧ 0 ≤ Int32.toInt o.1 ∧ TWR 15 o.2 (o2.2.1 2) ∧ kR [15, 16, 17, 19, 21] q0 o.2 ∧ mQ q20 o2.2) := by
  have d0 : Int32.toInt 0 = 0 := by decide
  have d1 : Int32.toInt 1 = 1 := by decide
  have d6 : Int32.toInt 6 = 6 := by decide
  unfold zX8_passYear_s15_s20_47 zX10_yearPasses_31
  refine d2_fix (fun (a : dK × Int32 × Int32) (a2 : dS × Int32 × Int32) => a.2.1 = Int32.ofNat m ∧ a.2.2 = a2.2.2 ∧ (∃ i : Nat, i ≤ n ∧ Int32.toInt a.2.2 = (i : Int) ∧ Int32.toInt a2.2.1 = (pcN m i : Nat) ∧ pcN m i ≤ i ∧ ∀ j : Nat, i ≤ j → j < 6 → a.1.1 17 j = 0 ∨ a.1.1 17 j = 1) ∧ TWR 15 a.1 (a2.1.1 2) ∧ kR [15, 16, 17, 19, 21] q0 a.1 ∧ mQ q20 a2.1 ∧ (∀ k : Nat, a.1.1 15 k = q0.1 15 k) ∧ ∀ k : Nat, a2.1.1 13 k = q20.1 13 k) ?_ dF dF _ _ ⟨rfl, rfl, ⟨0, Nat.zero_le _, d0, d0, Nat.le_refl _, fun j _ hj => hh j hj⟩, ht, kR.rf, ⟨fun _ _ _ _ _ _ => rfl, fun _ _ => rfl, rfl⟩, fun _ => rfl, fun _ => rfl⟩
  intro k1 k2 hkk a a2 ha
  obtain ⟨qa, x2, x3⟩ := a
  obtain ⟨qb, y1, y2⟩ := a2
  obtain ⟨h1, h2, ⟨i, hi, h3, h4, h5, h6⟩, h7, h8, h9, h10, h11⟩ := ha
  replace h1 : x2 = Int32.ofNat m := h1
  replace h2 : x3 = y2 := h2
  replace h3 : Int32.toInt x3 = (i : Int) := h3
  replace h4 : Int32.toInt y1 = (pcN m i : Nat) := h4
  replace h6 : ∀ j : Nat, i ≤ j → j < 6 → qa.1 17 j = 0 ∨ qa.1 17 j = 1 := h6
  replace h7 : TWR 15 qa (qb.1 2) := h7
  replace h8 : kR [15, 16, 17, 19, 21] q0 qa := h8
  replace h9 : mQ q20 qb := h9
  replace h10 : ∀ k : Nat, qa.1 15 k = q0.1 15 k := h10
  replace h11 : ∀ k : Nat, qb.1 13 k = q20.1 13 k := h11
  subst h2
  obtain ⟨t1, t2, t3, t4⟩ := h7
  show d2 (zX8_passYear_s15_s20_47b (fun q x2 x3 => k1 (q, x2, x3)) qa x2 x3) (zX10_yearPasses_31b (fun q x1 x2 => k2 (q, x1, x2)) qb y1 x3) _
  unfold zX8_passYear_s15_s20_47b zX10_yearPasses_31b zX10_size
  refine d2_rS ?_
  have e2 := h10 2
  refine d2_lif (fun c => ?_) (fun c => ?_)
  · have c1 := Int32.le_iff_toInt_le.mp c
    refine d2_rif (fun _ => ?_) (fun z => absurd (Int32.le_iff_toInt_le.mpr (by rw [← t1]; exact c1)) z)
    have ein : i = n := by rw [e2] at c1; omega
    have eb : zJ6_bitCount_0f7a4 x2 = some (Int32.ofNat (pcN m n)) := by rw [h1]; exact bc_all ⟨n, by omega⟩ ⟨m, hm⟩ hmn
    rw [eb]
    refine d2_lL (fun q1 e1 => d2_rL (fun q4 e4 => d2_some ?_))
    refine ⟨?_, ?_, ⟨?_, fun j hj => ⟨?_, ?_⟩, ?_, ?_⟩, ?_, ?_⟩
    · show Int32.ofNat (pcN m n) = y1
      rw [← ein]
      exact (ofn_of h4 (by omega)).symm
    · show 0 ≤ Int32.toInt (Int32.ofNat (pcN m n))
      rw [← ein, ← ofn_of h4 (by omega)]
      omega
    · show Int32.toInt (q1.1 15 2) = Int32.toInt (q4.1 2 29)
      rw [e1, cui_n (by decide), e4, dui_n (by decide)]; exact t1
    · show Int32.toInt (q1.1 (15 + 1) j) = Int32.toInt (q4.1 2 j)
      rw [e1, cui_o (by decide), e4, dui_n (by omega)]; exact (t2 j hj).1
    · show Int32.toInt (q1.1 (15 + 2) j) = Int32.toInt (q4.1 2 (6 + j))
      rw [e1, cui_o (by decide), e4, dui_n (by omega)]; exact (t2 j hj).2
    · show Int32.toInt (q1.1 15 3) = Int32.toInt (q4.1 2 12)
      rw [e1, cui_n (by decide), e4, dui_n (by decide)]; exact t3
    · show Int32.toInt (q1.1 15 4) = Int32.toInt (q4.1 2 13)
      rw [e1, cui_e, e4, dui_e, h10 4]
      have ea := h10 4
      rw [ea] at t4
      rw [ti_add rfl d1 (by omega) (by omega), ti_add rfl d1 (by omega) (by omega)]
      omega
    · show kR [15, 16, 17, 19, 21] q0 q1
      rw [e1]; exact kR_i15 h8 (by decide)
    · show mQ q20 q4
      rw [e4]; exact h9.i (by decide)
  · have c1 : ¬ Int32.toInt (qa.1 15 2) ≤ Int32.toInt x3 := fun z => c (Int32.le_iff_toInt_le.mpr z)
    refine d2_rif (fun z => by have z2 := Int32.le_iff_toInt_le.mp z; omega) (fun _ => ?_)
    have hin : i < n := by rw [e2] at c1; omega
    have n1 : Int32.toNatClampNeg x3 = i := by have n := cl_eq (i := x3) (by omega); omega
    have m1 : Int32.toNatClampNeg (6 + x3 : Int32) = 6 + i := by
      have z : Int32.toInt (6 + x3 : Int32) = 6 + (i : Int) := ti_add d6 h3 (by omega) (by omega)
      have n := cl_eq (i := (6 + x3 : Int32)) (by omega)
      omega
    have ex : x3 = Int32.ofNat i := ofn_of h3 (by omega)
    rw [n1]
    refine d2_lG (fun _ => d2_lL (fun v5 e5 => d2_lG (fun _ => d2_lL (fun q7 e7 => d2_rG (fun _ => d2_rL (fun v6 f6 => ?_))))))
    have hv : v6 = q20.1 13 i := f6.trans (h11 i)
    have hbi := hb i hin
    have hsh : (v5 ^^^ ((x2 >>> ((x3 : Int32) &&& 31)) &&& 1 : Int32)) = (if m.testBit i then 1 - v5 else v5) := by
      have z := xr_all ⟨i, by omega⟩ ⟨m, hm⟩
      rw [h1, ex]
      rcases h6 i (Nat.le_refl _) (by omega) with z5 | z5
      · rw [e5, z5]
        refine z.1.trans ?_
        cases m.testBit i <;> decide
      · rw [e5, z5]
        refine z.2.trans ?_
        cases m.testBit i <;> decide
    have e5i : Int32.toInt v5 = Int32.toInt (qb.1 2 (6 + i)) := by rw [e5]; exact (t2 i (by omega)).2
    have e5j : v5 = qb.1 2 (6 + i) := Int32.toInt_inj.mp e5i
    have key : ∀ (w : Int32) (q4 : dS) (y : Int32), w = (if m.testBit i then 1 - v5 else v5) → q4 = dui qb 2 (6 + i) w → Int32.toInt y = (pcN m (i + 1) : Nat) → d2 (k1 (q7, x2, x3 + 1)) (k2 (q4, y, x3 + 1)) (fun o o2 => o.1 = o2.1 ∧ 0 ≤ Int32.toInt o.1 ∧ TWR 15 o.2 (o2.2.1 2) ∧ kR [15, 16, 17, 19, 21] q0 o.2 ∧ mQ q20 o2.2) := by
      intro w q4 y ew e4 ey
      refine hkk _ _ ⟨h1, rfl, ⟨i + 1, by omega, by show Int32.toInt (x3 + 1) = _; rw [ti_add h3 d1 (by omega) (by omega)]; omega, ey, ?_, fun j hj hj6 => ?_⟩, ⟨?_, fun j hj => ⟨?_, ?_⟩, ?_, ?_⟩, ?_, ?_, ?_, ?_⟩
      · show pcN m i + (if m.testBit i then 1 else 0) ≤ i + 1
        split <;> omega
      · show q7.1 17 j = 0 ∨ q7.1 17 j = 1
        rw [e7, cui_n (by omega)]; exact h6 j (by omega) hj6
      · show Int32.toInt (q7.1 15 2) = Int32.toInt (q4.1 2 29)
        rw [e7, cui_o (by decide), e4, dui_n (by omega)]; exact t1
      · show Int32.toInt (q7.1 (15 + 1) j) = Int32.toInt (q4.1 2 j)
        rw [e7, cui_o (by decide), e4, dui_n (by omega)]; exact (t2 j hj).1
      · show Int32.toInt (q7.1 (15 + 2) j) = Int32.toInt (q4.1 2 (6 + j))
        rw [e7, e4]
        by_cases cj : j = i
        · rw [cj, cui_e, dui_e, ew, hsh]
        · rw [cui_n cj, dui_n (by omega)]; exact (t2 j hj).2
      · show Int32.toInt (q7.1 15 3) = Int32.toInt (q4.1 2 12)
        rw [e7, cui_o (by decide), e4, dui_n (by omega)]; exact t3
      · show Int32.toInt (q7.1 15 4) = Int32.toInt (q4.1 2 13)
        rw [e7, cui_o (by decide), e4, dui_n (by omega)]; exact t4
      · show kR [15, 16, 17, 19, 21] q0 q7
        rw [e7]; exact kR_i15 h8 (by decide)
      · show mQ q20 q4
        rw [e4]; exact h9.i (by omega)
      · intro k
        show q7.1 15 k = _
        rw [e7, cui_o (by decide)]; exact h10 k
      · intro k
        show q4.1 13 k = _
        rw [e4, dui_o (by decide)]; exact h11 k
    refine d2_rif (fun c3 => ?_) (fun c3 => ?_)
    · have hf : m.testBit i = false := by
        cases hc : m.testBit i with
        | false => rfl
        | true => exact absurd (hv ▸ c3) (hbi.mp hc)
      rw [m1]
      refine d2_rG (fun _ => d2_rL (fun v8 f8 => ?_))
      unfold zX10_yearPasses_79 zX10_yearPasses_95
      rw [m1]
      refine d2_rG (fun _ => d2_rL (fun q2' f2 => d2_rG (fun _ => d2_rL (fun v4 f4 => ?_))))
      have f13 : v4 = v6 := by rw [f4, f2, dui_o (by decide), n1, f6]
      refine d2_rif (fun _ => ?_) (fun z => absurd (f13.trans c3) z)
      refine key v8 q2' (y1 + 0) (by rw [hf, f8, e5j]; rfl) f2 ?_
      rw [ti_add h4 d0 (by omega) (by omega)]
      show _ = ((pcN m i + (if m.testBit i then 1 else 0) : Nat) : Int)
      rw [hf]
      simp
    · have hf : m.testBit i = true := hbi.mpr (fun z => c3 (hv.trans z))
      rw [m1]
      refine d2_rG (fun _ => d2_rL (fun v8 f8 => ?_))
      unfold zX10_yearPasses_79 zX10_yearPasses_95
      rw [m1]
      refine d2_rG (fun _ => d2_rL (fun q2' f2 => d2_rG (fun _ => d2_rL (fun v4 f4 => ?_))))
      have f13 : v4 = v6 := by rw [f4, f2, dui_o (by decide), n1, f6]
      refine d2_rif (fun z => absurd (f13.symm.trans z) c3) (fun _ => ?_)
      refine key (1 - v8) q2' (y1 + 1) (by rw [hf, f8, e5j]; rfl) f2 ?_
      rw [ti_add h4 d1 (by omega) (by omega)]
      show _ = ((pcN m i + (if m.testBit i then 1 else 0) : Nat) : Int)
      rw [hf]
      simp
theorem jx_year_s15 (q0 : dK) (q20 : dS) (hT : TC q0) (hl : LRf q0 q20) (ht : TWR 15 q0 (q20.1 2)) (hmd : Int32.toInt (q0.1 21 8) = Int32.toInt (q20.1 2 27)) : d2 (zX8_passYear_s15_s20_17 dF q0 0 0) (zX10_yearPasses q20) (fun o o2 => o.1 = o2.1 ∧ 0 ≤ Int32.toInt o.1 ∧ TWR 15 o.2 (o2.2.1 2) ∧ kR [15, 16, 17, 19, 21] q0 o.2 ∧ mQ q20 o2.2) := by
  have d0 : Int32.toInt 0 = 0 := by decide
  have d1 : Int32.toInt 1 = 1 := by decide
  have c2 := hT.1 15 2
  have c2a : chi 15 2 = 6 := by decide
  have c2b : clo 15 2 = 0 := by decide
  have c4 := hT.1 15 4
  have c4a : clo 15 4 = 0 := by decide
  have c4b : chi 15 4 = 1023 := by decide
  obtain ⟨n, hn⟩ : ∃ n : Nat, Int32.toInt (q0.1 15 2) = (n : Int) := ⟨(Int32.toInt (q0.1 15 2)).toNat, by omega⟩
  have hh : ∀ j : Nat, j < 6 → q0.1 17 j = 0 ∨ q0.1 17 j = 1 := fun j _ => by
    have z := hT.1 17 j
    have za : clo 17 j = 0 := rfl
    have zb : chi 17 j = 1 := rfl
    by_cases c : Int32.toInt (q0.1 17 j) = 0
    · exact Or.inl (Int32.toInt_inj.mp (by omega))
    · exact Or.inr (Int32.toInt_inj.mp (by omega))
  unfold zX8_passYear_s15_s20_17 zX10_yearPasses zX10_yearPasses_4
  refine d2_fix (fun (a : dK × Int32 × Int32) (a2 : dS × Int32 × Int32) => a2.2.1 = 0 ∧ a.2.2 = a2.2.2 ∧ (∃ i m : Nat, i ≤ n ∧ Int32.toInt a.2.2 = (i : Int) ∧ a.2.1 = Int32.ofNat m ∧ m < 64 ∧ m < 2 ^ i ∧ ∀ j : Nat, j < i → (m.testBit j = true ↔ ¬ a2.1.1 13 j = 0)) ∧ kfr q0 a.1 ∧ mP q20 a2.1) ?_ dF dF _ _ ⟨rfl, rfl, ⟨0, 0, Nat.zero_le _, d0, rfl, by decide, by decide, fun j hj => absurd hj (by omega)⟩, kfr.rf, ⟨fun _ _ _ _ _ => rfl, rfl⟩⟩
  intro k1 k2 hkk a a2 ha
  obtain ⟨qa, x2, x3⟩ := a
  obtain ⟨qb, y1, y2⟩ := a2
  obtain ⟨h1, h2, ⟨i, m, hi, h3, h4, h5, h6, h7⟩, h8, h9⟩ := ha
  replace h1 : y1 = 0 := h1
  replace h2 : x3 = y2 := h2
  replace h3 : Int32.toInt x3 = (i : Int) := h3
  replace h4 : x2 = Int32.ofNat m := h4
  replace h7 : ∀ j : Nat, j < i → (m.testBit j = true ↔ ¬ qb.1 13 j = 0) := h7
  replace h8 : kfr q0 qa := h8
  replace h9 : mP q20 qb := h9
  subst h1 h2 h4
  have ht2 : TWR 15 qa (qb.1 2) := (TWR_k15 ht h8).m (fun k => h9.r2 k)
  have e2 : qa.1 15 2 = q0.1 15 2 := h8.1 15 2 (by decide) (by decide) (by decide)
  have e4 : qa.1 15 4 = q0.1 15 4 := h8.1 15 4 (by decide) (by decide) (by decide)
  have t1 := ht2.1
  show d2 (zX8_passYear_s15_s20_17b (fun q x2 x3 => k1 (q, x2, x3)) qa (Int32.ofNat m) x3) (zX10_yearPasses_4b (fun q x1 x2 => k2 (q, x1, x2)) qb 0 x3) _
  unfold zX8_passYear_s15_s20_17b zX10_yearPasses_4b zX10_size
  refine d2_rS ?_
  refine d2_lif (fun c => ?_) (fun c => ?_)
  · have c1 := Int32.le_iff_toInt_le.mp c
    refine d2_rif (fun _ => ?_) (fun z => absurd (Int32.le_iff_toInt_le.mpr (by rw [← t1]; exact c1)) z)
    have ein : i = n := by rw [e2] at c1; omega
    subst ein
    refine d2_mono (jx_47_s15 qa qb m i h5 h6 (by rw [e2]; exact hn) (by omega) h7 (fun j hj => by rw [h8.1 17 j (by decide) (by decide) (by omega)]; exact hh j hj) (by rw [e4]; omega) ht2) (fun o o2 z => ⟨z.1, z.2.1, z.2.2.1, (kf_R15 h8).t z.2.2.2.1, h9.q.t z.2.2.2.2⟩)
  · have c1 : ¬ Int32.toInt (qa.1 15 2) ≤ Int32.toInt x3 := fun z => c (Int32.le_iff_toInt_le.mpr z)
    refine d2_rif (fun z => by have z2 := Int32.le_iff_toInt_le.mp z; omega) (fun _ => ?_)
    have hin : i < n := by rw [e2] at c1; omega
    have n1 : Int32.toNatClampNeg x3 = i := by have n := cl_eq (i := x3) (by omega); omega
    have ex : x3 = Int32.ofNat i := ofn_of h3 (by omega)
    have hl2 : LRf qa qb := hl.s (h8.1 20 2 (by decide) (by decide) (by decide)) h8.2.1 (fun k _ => h9.r2 k)
    have hmd2 : Int32.toInt (qa.1 21 8) = Int32.toInt (qb.1 2 27) := by rw [h8.2.2, h9.r2 27]; exact hmd
    have tb := tb_add ⟨i, by omega⟩ ⟨m, h5⟩ h6
    have pl := p2_le ⟨i, by omega⟩
    replace pl : 2 ^ (i + 1) ≤ 64 ∧ 2 ^ (i + 1) = 2 ^ i + 2 ^ i := pl
    have tn := tb_no ⟨i, by omega⟩ ⟨m, h5⟩ h6
    replace tn : m.testBit i = false := tn
    refine d2_BB (jt_s15 qa qb x3 h3 (by omega) hl2 ht2 hmd2 (by rw [e2]; omega)) (fun r1 q3 r4 q6 z => ?_)
    obtain ⟨z1, z2, z3, z4⟩ := z
    replace z1 : r1 = r4 := z1
    replace z2 : r1 = 0 ∨ r1 = 1 := z2
    replace z3 : kfr qa q3 := z3
    replace z4 : mf2 qb q6 := z4
    subst z1
    have e13 : ∀ k : Nat, q6.1 13 k = qb.1 13 k := fun k => z4.1 13 k (by decide) (by omega)
    have hbit : dAll (zX9_bit r1) (fun r => r = r1) := by
      unfold zX9_bit zX9_bit_9
      rcases z2 with z2 | z2
      · rw [if_pos z2]; exact dA_some z2.symm
      · rw [if_neg (by rw [z2]; decide)]; exact dA_some z2.symm
    rw [n1]
    refine d2_lV hbit (fun r e5 => d2_rG (fun _ => d2_rL (fun q8 e8 => ?_)))
    subst e5
    rw [nar01 z2] at e8
    have hnx : Int32.toInt (x3 + 1) = ((i + 1 : Nat) : Int) := by rw [ti_add h3 d1 (by omega) (by omega)]; omega
    rcases z2 with z2 | z2
    · have eo : (Int32.ofNat m ||| (r <<< ((x3 : Int32) &&& 31))) = Int32.ofNat m := by rw [z2, ex]; exact or0_all ⟨i, by omega⟩ ⟨m, h5⟩
      rw [eo]
      refine hkk (q3, Int32.ofNat m, x3 + 1) (q8, 0, x3 + 1) ⟨rfl, rfl, ⟨i + 1, m, by omega, hnx, rfl, h5, by omega, fun j hj => ?_⟩, h8.t z3, ?_⟩
      · show m.testBit j = true ↔ ¬ q8.1 13 j = 0
        rw [e8]
        by_cases cj : j = i
        · rw [cj, dui_e, tn, z2]
          exact ⟨fun z => absurd z (by decide), fun z => absurd rfl z⟩
        · rw [dui_n cj, e13]; exact h7 j (by omega)
      · show mP q20 q8
        rw [e8]; exact (h9.t z4).i
    · have eo : (Int32.ofNat m ||| (r <<< ((x3 : Int32) &&& 31))) = Int32.ofNat (m + 2 ^ i) := by rw [z2, ex]; exact or_all ⟨i, by omega⟩ ⟨m, h5⟩ h6
      rw [eo]
      refine hkk (q3, Int32.ofNat (m + 2 ^ i), x3 + 1) (q8, 0, x3 + 1) ⟨rfl, rfl, ⟨i + 1, m + 2 ^ i, by omega, hnx, rfl, by omega, by omega, fun j hj => ?_⟩, h8.t z3, ?_⟩
      · show (m + 2 ^ i).testBit j = true ↔ ¬ q8.1 13 j = 0
        rw [e8]
        by_cases cj : j = i
        · rw [cj, dui_e, z2]
          exact ⟨fun _ => by decide, fun _ => tb.1⟩
        · have tj : (m + 2 ^ i).testBit j = m.testBit j := tb.2 ⟨j, by omega⟩ (by show j < i; omega)
          rw [dui_n cj, e13, tj]; exact h7 j (by omega)
      · show mP q20 q8
        rw [e8]; exact (h9.t z4).i

