/-! a law asked of a turn, of a floor: both sides -/
def kfr (q o : dK) : Prop := (∀ j k : Nat, ¬ j = 19 → ¬ j = 21 → ¬ (j = 18 ∧ k = 1) → o.1 j k = q.1 j k) ∧ o.2 = q.2 ∧ o.1 21 8 = q.1 21 8
def mf2 (q o : dS) : Prop := (∀ j k : Nat, ¬ j = 12 → ¬ (j = 0 ∧ 22 ≤ k ∧ k ≤ 25) → o.1 j k = q.1 j k) ∧ o.2 = q.2
theorem kfr.kv {q o u : dK} (h : k21 q o) (k : vfr o u) : kfr q u := ⟨fun j i h1 h2 h3 => (k.1 j i h1 h3).trans (congrFun (h.1 j h2) i), k.2.trans h.2.1, (k.1 21 8 (by decide) (by decide)).trans h.2.2⟩
theorem mf2.kv {q o u : dS} (h : m12 q o) (k : mfr o u) : mf2 q u := ⟨fun j i h1 h2 => (k.1 j i h2).trans (congrFun (h.1 j h1) i), k.2.trans h.2⟩
/-- the same tower here and there -/
def TWR (t : Nat) (q : dK) (R : Nat → Int32) : Prop := Int32.toInt (q.1 t 2) = Int32.toInt (R 29) ∧ (∀ i : Nat, i < 6 → Int32.toInt (q.1 (t + 1) i) = Int32.toInt (R i) ∧ Int32.toInt (q.1 (t + 2) i) = Int32.toInt (R (6 + i))) ∧ Int32.toInt (q.1 t 3) = Int32.toInt (R 12) ∧ Int32.toInt (q.1 t 4) = Int32.toInt (R 13)
theorem LRf.s {q o : dK} {q2 o2 : dS} (h : LRf q q2) (h20 : o.1 20 2 = q.1 20 2) (hX : o.2 = q.2) (h2 : ∀ k : Nat, 14 ≤ k → o2.1 2 k = q2.1 2 k) : LRf o o2 := by
  have e : dTx o (q.1 20 2) = dTx q (q.1 20 2) := dTx_fr _ hX
  unfold LRf at h ⊢
  rw [h20, e, h2 32 (by decide)]
  rcases h with h | ⟨h1, F, T, m, L, cs, vs, k1, k2, k3, k4, k5, k6⟩
  · exact Or.inl h
  · exact Or.inr ⟨h1, F, T, m, L, cs, vs, k1, k2, k3, by rw [h2 _ (by omega)]; exact k4, fun j hj => by rw [h2 _ (by omega), h2 _ (by omega)]; exact k5 j hj, k6⟩
theorem d2_idl {α : Type} {x : Option (Int32 × α)} {β : Type} {y : Option β} {P : Int32 × α → β → Prop} (h : d2 x y P) : d2 (dB x (fun r q => dG (dbl r) (some (r, q)))) y P := by
  intro a b e1 e2
  obtain ⟨r, q, e3, e4⟩ := dB_some e1
  obtain ⟨-, e5⟩ := dG_some e4
  cases e5
  exact h _ b e3 e2
theorem d2_idr {α : Type} {x : Option α} {β : Type} {y : Option (Int32 × β)} {P : α → Int32 × β → Prop} (h : d2 x y P) : d2 x (dB y (fun r q => dG (dbl r) (some (r, q)))) P := by
  intro a b e1 e2
  obtain ⟨r, q, e3, e4⟩ := dB_some e2
  obtain ⟨-, e5⟩ := dG_some e4
  cases e5
  exact h a _ e1 e3
theorem d2_idn {α : Type} {x : Option (Int32 × α)} {β : Type} {y : Option β} {P : Int32 × α → β → Prop} (h : d2 x y P) : d2 (dB x (fun r q => some (r, q))) y P := by
  intro a b e1 e2
  obtain ⟨r, q, e3, e4⟩ := dB_some e1
  cases e4
  exact h _ b e3 e2
/-- the words of a turn: both sides -/
theorem w_turn_s2 (q : dK) (q2 : dS) (p : Int32) {k : Nat} (hp : Int32.toInt p = (k : Int)) (hk1 : 1 ≤ k) (ht : TWR 2 q (q2.1 2)) (hm : Int32.toInt (q.1 21 8) = Int32.toInt (q2.1 2 27)) (hn : (k : Int) ≤ Int32.toInt (q.1 2 2)) (hn6 : Int32.toInt (q.1 2 2) ≤ 6) {α β : Type} {X : dK → Option α} {Y : dS → Option β} {P : α → β → Prop} (h : ∀ (o : dK) (o2 : dS) (A : Nat → Int), WRd o o2 A → k21 q o → m12 q2 o2 → d2 (X o) (Y o2) P) : d2 (dV (zX1_setTurn_s20_s2 q p) X) (dB (zX10_rankBelow q2 p) (fun r4 q6 => dV (zX10_setsTurn q6 p (q2.1 2 0) r4 (q6.1 2 6)) Y)) P := by
  obtain ⟨t1, t2, t3, t4⟩ := ht
  refine d2_lV (c_setTurn_s2 q p hp) (fun o z => ?_)
  refine d2_rB (m_below q2 p hp (by omega)) (fun r4 q6 y => ?_)
  obtain ⟨y1, y2⟩ := y
  replace y1 : Int32.toInt r4 = (if (k : Int) < Int32.toInt (q2.1 2 29) then Int32.toInt (q2.1 2 k) else -1) := y1
  replace y2 : q6 = q2 := y2
  subst y2
  refine d2_rV (m_setsTurn q6 p (q6.1 2 0) r4 (q6.1 2 6)) (fun o2 w => ?_)
  have i0 := t2 0 (by decide)
  have h0 : (0 : Int) < Int32.toInt (q.1 2 2) := by omega
  rw [if_pos h0, if_pos h0, i0.1, i0.2, t1, t4, hm] at z
  rw [hp, y1] at w
  have ek : (if (k : Int) < Int32.toInt (q6.1 2 29) then Int32.toInt (q.1 3 k) else -1) = (if (k : Int) < Int32.toInt (q6.1 2 29) then Int32.toInt (q6.1 2 k) else -1) := by
    by_cases c : (k : Int) < Int32.toInt (q6.1 2 29)
    · rw [if_pos c, if_pos c]; exact (t2 k (by omega)).1
    · rw [if_neg c, if_neg c]
  rw [ek] at z
  have hb : -2147483648 ≤ (if (k : Int) < Int32.toInt (q6.1 2 29) then Int32.toInt (q6.1 2 k) else -1) ∧ (if (k : Int) < Int32.toInt (q6.1 2 29) then Int32.toInt (q6.1 2 k) else -1) ≤ 2147483647 := by
    by_cases c : (k : Int) < Int32.toInt (q6.1 2 29)
    · rw [if_pos c]; exact ti_b _
    · rw [if_neg c]; exact ⟨by decide, by decide⟩
  refine h o o2 _ ⟨z.1, w.1, fun j => w9_b (by omega) (ti_b _) hb (ti_b _) (ti_b _) ⟨by decide, by decide⟩ ⟨by decide, by decide⟩ (ti_b _) (ti_b _) j⟩ z.2 w.2
theorem jb_s2 (q : dK) (q2 : dS) (p : Int32) {k : Nat} (hp : Int32.toInt p = (k : Int)) (hk1 : 1 ≤ k) (hl : LRf q q2) (ht : TWR 2 q (q2.1 2)) (hm : Int32.toInt (q.1 21 8) = Int32.toInt (q2.1 2 27)) (hn : (k : Int) ≤ Int32.toInt (q.1 2 2)) (hn6 : Int32.toInt (q.1 2 2) ≤ 6) : d2 (zX1_bars_s20_s2 q p) (dB (zX10_rankBelow q2 p) (fun r4 q6 => dV (zX10_setsTurn q6 p (q2.1 2 0) r4 (q6.1 2 6)) (fun q9 => zX10_isNow q9 2))) (fun o o2 => o.1 = o2.1 ∧ (o.1 = 0 ∨ o.1 = 1) ∧ kfr q o.2 ∧ mf2 q2 o2.2) := by
  unfold zX1_bars_s20_s2
  refine w_turn_s2 q q2 p hp hk1 ht hm hn hn6 (fun o o2 A hw ho ho2 => d2_idl ?_)
  have hl2 : LRf o o2 := hl.s (congrFun (ho.1 20 (by decide)) 2) ho.2.1 (fun k _ => congrFun (ho2.1 2 (by decide)) k)
  exact d2_mono (j_any hl2 hw 1 2 (by decide) (by decide)) (fun a b z => ⟨z.1, z.2.1, kfr.kv ho z.2.2.1, mf2.kv ho2 z.2.2.2⟩)
theorem jp_s2 (q : dK) (q2 : dS) (p : Int32) {k : Nat} (hp : Int32.toInt p = (k : Int)) (hk1 : 1 ≤ k) (hl : LRf q q2) (ht : TWR 2 q (q2.1 2)) (hm : Int32.toInt (q.1 21 8) = Int32.toInt (q2.1 2 27)) (hn : (k : Int) ≤ Int32.toInt (q.1 2 2)) (hn6 : Int32.toInt (q.1 2 2) ≤ 6) : d2 (zX1_payOf_s20_s2 q p) (dB (zX10_rankBelow q2 p) (fun r4 q6 => dV (zX10_setsTurn q6 p (q2.1 2 0) r4 (q6.1 2 6)) (fun q9 => zX10_paysNow q9))) (fun o o2 => o.1 = o2.1 ∧ kfr q o.2 ∧ mf2 q2 o2.2) := by
  unfold zX1_payOf_s20_s2
  refine w_turn_s2 q q2 p hp hk1 ht hm hn hn6 (fun o o2 A hw ho ho2 => d2_idn ?_)
  have hl2 : LRf o o2 := hl.s (congrFun (ho.1 20 (by decide)) 2) ho.2.1 (fun k _ => congrFun (ho2.1 2 (by decide)) k)
  exact d2_mono (j_pay hl2 hw) (fun a b z => ⟨z.1, kfr.kv ho z.2.1, mf2.kv ho2 z.2.2⟩)
/-- whether a floor tips -/
theorem jt_s2 (q : dK) (q2 : dS) (p : Int32) {k : Nat} (hp : Int32.toInt p = (k : Int)) (hk6 : k < 6) (hl : LRf q q2) (ht : TWR 2 q (q2.1 2)) (hm : Int32.toInt (q.1 21 8) = Int32.toInt (q2.1 2 27)) (hn : (k : Int) < Int32.toInt (q.1 2 2)) : d2 (zX1_tips_s20_s2 q p) (zX10_tipsAt q2 p) (fun o o2 => o.1 = o2.1 ∧ (o.1 = 0 ∨ o.1 = 1) ∧ kfr q o.2 ∧ mf2 q2 o2.2) := by
  have dm : Int32.toInt (-1) = -1 := by decide
  obtain ⟨t1, t2, t3, t4⟩ := ht
  have n := cl_eq (i := p) (by omega)
  have en : Int32.toNatClampNeg p = k := by omega
  unfold zX1_tips_s20_s2 zX10_tipsAt
  refine d2_lB (c_floor_s2 q p) (fun r1 q3 z => ?_)
  obtain ⟨z1, z2⟩ := z
  replace z1 : q3 = q := z1
  replace z2 : (r1 = 1 ∧ 0 ≤ Int32.toInt p ∧ Int32.toInt p < Int32.toInt (q.1 2 2)) ∨ (r1 = 0 ∧ ¬ (0 ≤ Int32.toInt p ∧ Int32.toInt p < Int32.toInt (q.1 2 2))) := z2
  subst z1
  have e1 : r1 = 1 := by
    rcases z2 with z2 | z2
    · exact z2.1
    · exact absurd ⟨by omega, by omega⟩ z2.2
  refine d2_lif (fun c => absurd (e1.symm.trans c) (by decide)) (fun _ => d2_lV (c_common q3 (q3.1 2 2) (q3.1 2 4)) (fun q6 a => ?_))
  obtain ⟨a1, a2, a3, a4, a5⟩ := a
  refine d2_lL (fun q7 e7 => d2_lL (fun q8 e8 => d2_lL (fun q9 e9 => d2_lG (fun _ => d2_lL (fun v11 e11 => d2_lL (fun q12 e12 => d2_lG (fun _ => d2_lL (fun v14 e14 => d2_lL (fun q15 e15 => d2_lL (fun q16 e16 => ?_))))))))))
  refine d2_rV (m_setsFloor q2 p hp hk6) (fun o2 w => ?_)
  have f9 : ∀ j : Nat, ¬ j = 21 → q9.1 j = q3.1 j := fun j hj => by rw [e9, cui_o hj, e8, cui_o hj, e7, cui_o hj, a4 j hj]
  rw [f9 4 (by decide), en] at e11
  have f12 : q12.1 3 = q3.1 3 := by rw [e12, cui_o (by decide)]; exact f9 3 (by decide)
  rw [f12, en] at e14
  have hk : k21 q3 q16 := by
    refine ⟨fun j hj => ?_, ?_, ?_⟩
    · rw [e16, cui_o hj, e15, cui_o hj, e12, cui_o hj]; exact f9 j hj
    · rw [e16, e15, e12, e9, e8, e7]; exact a5.1
    · rw [e16, cui_n (by decide), e15, cui_n (by decide), e12, cui_n (by decide), e9, cui_n (by decide), e8, cui_n (by decide), e7, cui_n (by decide)]; exact a3
  have hw : WRd q16 o2 (w9 (-1) (-1) (-1) (Int32.toInt (q2.1 2 (6 + k))) (Int32.toInt (q2.1 2 29)) (Int32.toInt (q2.1 2 k)) (k : Int) (Int32.toInt (q2.1 2 13)) (Int32.toInt (q2.1 2 27))) := by
    refine ⟨all9 ?_ ?_ ?_ ?_ ?_ ?_ ?_ ?_ ?_, w.1, fun j => w9_b ⟨by decide, by decide⟩ ⟨by decide, by decide⟩ ⟨by decide, by decide⟩ (ti_b _) (ti_b _) (ti_b _) (by omega) (ti_b _) (ti_b _) j⟩
    · show Int32.toInt (q16.1 21 0) = -1
      rw [e16, cui_n (by decide), e15, cui_n (by decide), e12, cui_n (by decide), e9, cui_n (by decide), e8, cui_n (by decide), e7, cui_e]; exact dm
    · show Int32.toInt (q16.1 21 1) = -1
      rw [e16, cui_n (by decide), e15, cui_n (by decide), e12, cui_n (by decide), e9, cui_n (by decide), e8, cui_e]; exact dm
    · show Int32.toInt (q16.1 21 2) = -1
      rw [e16, cui_n (by decide), e15, cui_n (by decide), e12, cui_n (by decide), e9, cui_e]; exact dm
    · show Int32.toInt (q16.1 21 3) = Int32.toInt (q2.1 2 (6 + k))
      rw [e16, cui_n (by decide), e15, cui_n (by decide), e12, cui_e, e11]; exact (t2 k hk6).2
    · show Int32.toInt (q16.1 21 4) = Int32.toInt (q2.1 2 29)
      rw [e16, cui_n (by decide), e15, cui_n (by decide), e12, cui_n (by decide), e9, cui_n (by decide), e8, cui_n (by decide), e7, cui_n (by decide), a1]; exact t1
    · show Int32.toInt (q16.1 21 5) = Int32.toInt (q2.1 2 k)
      rw [e16, cui_n (by decide), e15, cui_e, e14]; exact (t2 k hk6).1
    · show Int32.toInt (q16.1 21 6) = (k : Int)
      rw [e16, cui_e]; exact hp
    · show Int32.toInt (q16.1 21 7) = Int32.toInt (q2.1 2 13)
      rw [e16, cui_n (by decide), e15, cui_n (by decide), e12, cui_n (by decide), e9, cui_n (by decide), e8, cui_n (by decide), e7, cui_n (by decide), a2]; exact t4
    · show Int32.toInt (q16.1 21 8) = Int32.toInt (q2.1 2 27)
      rw [e16, cui_n (by decide), e15, cui_n (by decide), e12, cui_n (by decide), e9, cui_n (by decide), e8, cui_n (by decide), e7, cui_n (by decide), a3]; exact hm
  have hl2 : LRf q16 o2 := hl.s (congrFun (hk.1 20 (by decide)) 2) hk.2.1 (fun k _ => congrFun (w.2.1 2 (by decide)) k)
  exact d2_idl (d2_idr (d2_mono (j_any hl2 hw 2 3 (by decide) (by decide)) (fun a b z => ⟨z.1, z.2.1, kfr.kv hk z.2.2.1, mf2.kv w.2 z.2.2.2⟩)))
/-- the words of a turn: both sides -/
theorem w_turn_s15 (q : dK) (q2 : dS) (p : Int32) {k : Nat} (hp : Int32.toInt p = (k : Int)) (hk1 : 1 ≤ k) (ht : TWR 15 q (q2.1 2)) (hm : Int32.toInt (q.1 21 8) = Int32.toInt (q2.1 2 27)) (hn : (k : Int) ≤ Int32.toInt (q.1 15 2)) (hn6 : Int32.toInt (q.1 15 2) ≤ 6) {α β : Type} {X : dK → Option α} {Y : dS → Option β} {P : α → β → Prop} (h : ∀ (o : dK) (o2 : dS) (A : Nat → Int), WRd o o2 A → k21 q o → m12 q2 o2 → d2 (X o) (Y o2) P) : d2 (dV (zX1_setTurn_s20_s15 q p) X) (dB (zX10_rankBelow q2 p) (fun r4 q6 => dV (zX10_setsTurn q6 p (q2.1 2 0) r4 (q6.1 2 6)) Y)) P := by
  obtain ⟨t1, t2, t3, t4⟩ := ht
  refine d2_lV (c_setTurn_s15 q p hp) (fun o z => ?_)
  refine d2_rB (m_below q2 p hp (by omega)) (fun r4 q6 y => ?_)
  obtain ⟨y1, y2⟩ := y
  replace y1 : Int32.toInt r4 = (if (k : Int) < Int32.toInt (q2.1 2 29) then Int32.toInt (q2.1 2 k) else -1) := y1
  replace y2 : q6 = q2 := y2
  subst y2
  refine d2_rV (m_setsTurn q6 p (q6.1 2 0) r4 (q6.1 2 6)) (fun o2 w => ?_)
  have i0 := t2 0 (by decide)
  have h0 : (0 : Int) < Int32.toInt (q.1 15 2) := by omega
  rw [if_pos h0, if_pos h0, i0.1, i0.2, t1, t4, hm] at z
  rw [hp, y1] at w
  have ek : (if (k : Int) < Int32.toInt (q6.1 2 29) then Int32.toInt (q.1 16 k) else -1) = (if (k : Int) < Int32.toInt (q6.1 2 29) then Int32.toInt (q6.1 2 k) else -1) := by
    by_cases c : (k : Int) < Int32.toInt (q6.1 2 29)
    · rw [if_pos c, if_pos c]; exact (t2 k (by omega)).1
    · rw [if_neg c, if_neg c]
  rw [ek] at z
  have hb : -2147483648 ≤ (if (k : Int) < Int32.toInt (q6.1 2 29) then Int32.toInt (q6.1 2 k) else -1) ∧ (if (k : Int) < Int32.toInt (q6.1 2 29) then Int32.toInt (q6.1 2 k) else -1) ≤ 2147483647 := by
    by_cases c : (k : Int) < Int32.toInt (q6.1 2 29)
    · rw [if_pos c]; exact ti_b _
    · rw [if_neg c]; exact ⟨by decide, by decide⟩
  refine h o o2 _ ⟨z.1, w.1, fun j => w9_b (by omega) (ti_b _) hb (ti_b _) (ti_b _) ⟨by decide, by decide⟩ ⟨by decide, by decide⟩ (ti_b _) (ti_b _) j⟩ z.2 w.2
theorem jb_s15 (q : dK) (q2 : dS) (p : Int32) {k : Nat} (hp : Int32.toInt p = (k : Int)) (hk1 : 1 ≤ k) (hl : LRf q q2) (ht : TWR 15 q (q2.1 2)) (hm : Int32.toInt (q.1 21 8) = Int32.toInt (q2.1 2 27)) (hn : (k : Int) ≤ Int32.toInt (q.1 15 2)) (hn6 : Int32.toInt (q.1 15 2) ≤ 6) : d2 (zX1_bars_s20_s15 q p) (dB (zX10_rankBelow q2 p) (fun r4 q6 => dV (zX10_setsTurn q6 p (q2.1 2 0) r4 (q6.1 2 6)) (fun q9 => zX10_isNow q9 2))) (fun o o2 => o.1 = o2.1 ∧ (o.1 = 0 ∨ o.1 = 1) ∧ kfr q o.2 ∧ mf2 q2 o2.2) := by
  unfold zX1_bars_s20_s15
  refine w_turn_s15 q q2 p hp hk1 ht hm hn hn6 (fun o o2 A hw ho ho2 => d2_idl ?_)
  have hl2 : LRf o o2 := hl.s (congrFun (ho.1 20 (by decide)) 2) ho.2.1 (fun k _ => congrFun (ho2.1 2 (by decide)) k)
  exact d2_mono (j_any hl2 hw 1 2 (by decide) (by decide)) (fun a b z => ⟨z.1, z.2.1, kfr.kv ho z.2.2.1, mf2.kv ho2 z.2.2.2⟩)
theorem jp_s15 (q : dK) (q2 : dS) (p : Int32) {k : Nat} (hp : Int32.toInt p = (k : Int)) (hk1 : 1 ≤ k) (hl : LRf q q2) (ht : TWR 15 q (q2.1 2)) (hm : Int32.toInt (q.1 21 8) = Int32.toInt (q2.1 2 27)) (hn : (k : Int) ≤ Int32.toInt (q.1 15 2)) (hn6 : Int32.toInt (q.1 15 2) ≤ 6) : d2 (zX1_payOf_s20_s15 q p) (dB (zX10_rankBelow q2 p) (fun r4 q6 => dV (zX10_setsTurn q6 p (q2.1 2 0) r4 (q6.1 2 6)) (fun q9 => zX10_paysNow q9))) (fun o o2 => o.1 = o2.1 ∧ kfr q o.2 ∧ mf2 q2 o2.2) := by
  unfold zX1_payOf_s20_s15
  refine w_turn_s15 q q2 p hp hk1 ht hm hn hn6 (fun o o2 A hw ho ho2 => d2_idn ?_)
  have hl2 : LRf o o2 := hl.s (congrFun (ho.1 20 (by decide)) 2) ho.2.1 (fun k _ => congrFun (ho2.1 2 (by decide)) k)
  exact d2_mono (j_pay hl2 hw) (fun a b z => ⟨z.1, kfr.kv ho z.2.1, mf2.kv ho2 z.2.2⟩)
/-- whether a floor tips -/
theorem jt_s15 (q : dK) (q2 : dS) (p : Int32) {k : Nat} (hp : Int32.toInt p = (k : Int)) (hk6 : k < 6) (hl : LRf q q2) (ht : TWR 15 q (q2.1 2)) (hm : Int32.toInt (q.1 21 8) = Int32.toInt (q2.1 2 27)) (hn : (k : Int) < Int32.toInt (q.1 15 2)) : d2 (zX1_tips_s20_s15 q p) (zX10_tipsAt q2 p) (fun o o2 => o.1 = o2.1 ∧ (o.1 = 0 ∨ o.1 = 1) ∧ kfr q o.2 ∧ mf2 q2 o2.2) := by
  have dm : Int32.toInt (-1) = -1 := by decide
  obtain ⟨t1, t2, t3, t4⟩ := ht
  have n := cl_eq (i := p) (by omega)
  have en : Int32.toNatClampNeg p = k := by omega
  unfold zX1_tips_s20_s15 zX10_tipsAt
  refine d2_lB (c_floor_s15 q p) (fun r1 q3 z => ?_)
  obtain ⟨z1, z2⟩ := z
  replace z1 : q3 = q := z1
  replace z2 : (r1 = 1 ∧ 0 ≤ Int32.toInt p ∧ Int32.toInt p < Int32.toInt (q.1 15 2)) ∨ (r1 = 0 ∧ ¬ (0 ≤ Int32.toInt p ∧ Int32.toInt p < Int32.toInt (q.1 15 2))) := z2
  subst z1
  have e1 : r1 = 1 := by
    rcases z2 with z2 | z2
    · exact z2.1
    · exact absurd ⟨by omega, by omega⟩ z2.2
  refine d2_lif (fun c => absurd (e1.symm.trans c) (by decide)) (fun _ => d2_lV (c_common q3 (q3.1 15 2) (q3.1 15 4)) (fun q6 a => ?_))
  obtain ⟨a1, a2, a3, a4, a5⟩ := a
  refine d2_lL (fun q7 e7 => d2_lL (fun q8 e8 => d2_lL (fun q9 e9 => d2_lG (fun _ => d2_lL (fun v11 e11 => d2_lL (fun q12 e12 => d2_lG (fun _ => d2_lL (fun v14 e14 => d2_lL (fun q15 e15 => d2_lL (fun q16 e16 => ?_))))))))))
  refine d2_rV (m_setsFloor q2 p hp hk6) (fun o2 w => ?_)
  have f9 : ∀ j : Nat, ¬ j = 21 → q9.1 j = q3.1 j := fun j hj => by rw [e9, cui_o hj, e8, cui_o hj, e7, cui_o hj, a4 j hj]
  rw [f9 17 (by decide), en] at e11
  have f12 : q12.1 16 = q3.1 16 := by rw [e12, cui_o (by decide)]; exact f9 16 (by decide)
  rw [f12, en] at e14
  have hk : k21 q3 q16 := by
    refine ⟨fun j hj => ?_, ?_, ?_⟩
    · rw [e16, cui_o hj, e15, cui_o hj, e12, cui_o hj]; exact f9 j hj
    · rw [e16, e15, e12, e9, e8, e7]; exact a5.1
    · rw [e16, cui_n (by decide), e15, cui_n (by decide), e12, cui_n (by decide), e9, cui_n (by decide), e8, cui_n (by decide), e7, cui_n (by decide)]; exact a3
  have hw : WRd q16 o2 (w9 (-1) (-1) (-1) (Int32.toInt (q2.1 2 (6 + k))) (Int32.toInt (q2.1 2 29)) (Int32.toInt (q2.1 2 k)) (k : Int) (Int32.toInt (q2.1 2 13)) (Int32.toInt (q2.1 2 27))) := by
    refine ⟨all9 ?_ ?_ ?_ ?_ ?_ ?_ ?_ ?_ ?_, w.1, fun j => w9_b ⟨by decide, by decide⟩ ⟨by decide, by decide⟩ ⟨by decide, by decide⟩ (ti_b _) (ti_b _) (ti_b _) (by omega) (ti_b _) (ti_b _) j⟩
    · show Int32.toInt (q16.1 21 0) = -1
      rw [e16, cui_n (by decide), e15, cui_n (by decide), e12, cui_n (by decide), e9, cui_n (by decide), e8, cui_n (by decide), e7, cui_e]; exact dm
    · show Int32.toInt (q16.1 21 1) = -1
      rw [e16, cui_n (by decide), e15, cui_n (by decide), e12, cui_n (by decide), e9, cui_n (by decide), e8, cui_e]; exact dm
    · show Int32.toInt (q16.1 21 2) = -1
      rw [e16, cui_n (by decide), e15, cui_n (by decide), e12, cui_n (by decide), e9, cui_e]; exact dm
    · show Int32.toInt (q16.1 21 3) = Int32.toInt (q2.1 2 (6 + k))
      rw [e16, cui_n (by decide), e15, cui_n (by decide), e12, cui_e, e11]; exact (t2 k hk6).2
    · show Int32.toInt (q16.1 21 4) = Int32.toInt (q2.1 2 29)
      rw [e16, cui_n (by decide), e15, cui_n (by decide), e12, cui_n (by decide), e9, cui_n (by decide), e8, cui_n (by decide), e7, cui_n (by decide), a1]; exact t1
    · show Int32.toInt (q16.1 21 5) = Int32.toInt (q2.1 2 k)
      rw [e16, cui_n (by decide), e15, cui_e, e14]; exact (t2 k hk6).1
    · show Int32.toInt (q16.1 21 6) = (k : Int)
      rw [e16, cui_e]; exact hp
    · show Int32.toInt (q16.1 21 7) = Int32.toInt (q2.1 2 13)
      rw [e16, cui_n (by decide), e15, cui_n (by decide), e12, cui_n (by decide), e9, cui_n (by decide), e8, cui_n (by decide), e7, cui_n (by decide), a2]; exact t4
    · show Int32.toInt (q16.1 21 8) = Int32.toInt (q2.1 2 27)
      rw [e16, cui_n (by decide), e15, cui_n (by decide), e12, cui_n (by decide), e9, cui_n (by decide), e8, cui_n (by decide), e7, cui_n (by decide), a3]; exact hm
  have hl2 : LRf q16 o2 := hl.s (congrFun (hk.1 20 (by decide)) 2) hk.2.1 (fun k _ => congrFun (w.2.1 2 (by decide)) k)
  exact d2_idl (d2_idr (d2_mono (j_any hl2 hw 2 3 (by decide) (by decide)) (fun a b z => ⟨z.1, z.2.1, kfr.kv hk z.2.2.1, mf2.kv w.2 z.2.2.2⟩)))

