/-! the words of a turn, of a floor -/
/-- the words, one by one -/
def w9 (a0 a1 a2 a3 a4 a5 a6 a7 a8 : Int) : Nat → Int := fun j => if j = 0 then a0 else if j = 1 then a1 else if j = 2 then a2 else if j = 3 then a3 else if j = 4 then a4 else if j = 5 then a5 else if j = 6 then a6 else if j = 7 then a7 else if j = 8 then a8 else 0
theorem w9_b {a0 a1 a2 a3 a4 a5 a6 a7 a8 : Int} (h0 : -2147483648 ≤ a0 ∧ a0 ≤ 2147483647) (h1 : -2147483648 ≤ a1 ∧ a1 ≤ 2147483647) (h2 : -2147483648 ≤ a2 ∧ a2 ≤ 2147483647) (h3 : -2147483648 ≤ a3 ∧ a3 ≤ 2147483647) (h4 : -2147483648 ≤ a4 ∧ a4 ≤ 2147483647) (h5 : -2147483648 ≤ a5 ∧ a5 ≤ 2147483647) (h6 : -2147483648 ≤ a6 ∧ a6 ≤ 2147483647) (h7 : -2147483648 ≤ a7 ∧ a7 ≤ 2147483647) (h8 : -2147483648 ≤ a8 ∧ a8 ≤ 2147483647) (j : Nat) : -2147483648 ≤ w9 a0 a1 a2 a3 a4 a5 a6 a7 a8 j ∧ w9 a0 a1 a2 a3 a4 a5 a6 a7 a8 j ≤ 2147483647 := by
  by_cases c : j < 9
  · have e : j = 0 ∨ j = 1 ∨ j = 2 ∨ j = 3 ∨ j = 4 ∨ j = 5 ∨ j = 6 ∨ j = 7 ∨ j = 8 := by omega
    rcases e with e | e | e | e | e | e | e | e | e <;> subst e
    · exact h0
    · exact h1
    · exact h2
    · exact h3
    · exact h4
    · exact h5
    · exact h6
    · exact h7
    · exact h8
  · have e : w9 a0 a1 a2 a3 a4 a5 a6 a7 a8 j = 0 := by
      unfold w9
      rw [if_neg (by omega), if_neg (by omega), if_neg (by omega), if_neg (by omega), if_neg (by omega), if_neg (by omega), if_neg (by omega), if_neg (by omega), if_neg (by omega)]
    rw [e]; exact ⟨by decide, by decide⟩
/-- nine facts, one by one -/
theorem all9 {P : Nat → Prop} (h0 : P 0) (h1 : P 1) (h2 : P 2) (h3 : P 3) (h4 : P 4) (h5 : P 5) (h6 : P 6) (h7 : P 7) (h8 : P 8) (j : Nat) (hj : j < 9) : P j := by
  have e : j = 0 ∨ j = 1 ∨ j = 2 ∨ j = 3 ∨ j = 4 ∨ j = 5 ∨ j = 6 ∨ j = 7 ∨ j = 8 := by omega
  rcases e with e | e | e | e | e | e | e | e | e <;> subst e
  · exact h0
  · exact h1
  · exact h2
  · exact h3
  · exact h4
  · exact h5
  · exact h6
  · exact h7
  · exact h8
theorem ti_b (x : Int32) : -2147483648 ≤ Int32.toInt x ∧ Int32.toInt x ≤ 2147483647 := ti_rg x
theorem m_size (q : dS) : dAll (zX10_size q) (fun o => o.1 = q.1 2 29 ∧ o.2 = q) := dA_some ⟨rfl, rfl⟩
/-- only the words' row -/
def m12 (q o : dS) : Prop := (∀ j : Nat, ¬ j = 12 → o.1 j = q.1 j) ∧ o.2 = q.2
theorem m_asked (q : dS) (p1 p2 p3 : Int32) : dAll (zX10_setsAsked q p1 p2 p3) (fun o => (∀ i : Nat, i < 3 → o.1 12 i = q.1 12 i) ∧ o.1 12 3 = q.1 2 29 ∧ o.1 12 4 = p1 ∧ o.1 12 5 = p2 ∧ o.1 12 6 = q.1 2 27 ∧ o.1 12 7 = p3 ∧ o.1 12 8 = q.1 2 13 ∧ m12 q o) := by
  unfold zX10_setsAsked
  refine dA_B (m_size q) (fun r1 q3 z => dA_L (fun q4 e4 => dA_L (fun q5 e5 => dA_L (fun q6 e6 => dA_L (fun q7 e7 => dA_L (fun q8 e8 => dA_L (fun q9 e9 => dA_some ?_)))))))
  obtain ⟨z1, z2⟩ := z
  replace z1 : r1 = q.1 2 29 := z1
  replace z2 : q3 = q := z2
  subst z2
  have s6 : q6.1 2 = q3.1 2 := by rw [e6, dui_o (by decide), e5, dui_o (by decide), e4, dui_o (by decide)]
  have s8 : q8.1 2 = q3.1 2 := by rw [e8, dui_o (by decide), e7, dui_o (by decide)]; exact s6
  refine ⟨fun i hi => ?_, ?_, ?_, ?_, ?_, ?_, ?_, fun j hj => ?_, ?_⟩
  · rw [e9, dui_n (by omega), e8, dui_n (by omega), e7, dui_n (by omega), e6, dui_n (by omega), e5, dui_n (by omega), e4, dui_n (by omega)]
  · rw [e9, dui_n (by decide), e8, dui_n (by decide), e7, dui_n (by decide), e6, dui_n (by decide), e5, dui_n (by decide), e4, dui_e, z1]
  · rw [e9, dui_n (by decide), e8, dui_n (by decide), e7, dui_n (by decide), e6, dui_n (by decide), e5, dui_e]
  · rw [e9, dui_n (by decide), e8, dui_n (by decide), e7, dui_n (by decide), e6, dui_e]
  · rw [e9, dui_n (by decide), e8, dui_n (by decide), e7, dui_e, s6]
  · rw [e9, dui_n (by decide), e8, dui_e]
  · rw [e9, dui_e, s8]
  · rw [e9, dui_o hj, e8, dui_o hj, e7, dui_o hj, e6, dui_o hj, e5, dui_o hj, e4, dui_o hj]
  · rw [e9, e8, e7, e6, e5, e4]; rfl
/-- a turn's words, there -/
theorem m_setsTurn (q : dS) (p1 p2 p3 p4 : Int32) : dAll (zX10_setsTurn q p1 p2 p3 p4) (fun o => (∀ j : Nat, j < 9 → Int32.toInt (o.1 12 (wcd_3 j - 8)) = w9 (Int32.toInt p1) (Int32.toInt p2) (Int32.toInt p3) (Int32.toInt p4) (Int32.toInt (q.1 2 29)) (-1) (-1) (Int32.toInt (q.1 2 13)) (Int32.toInt (q.1 2 27)) j) ∧ m12 q o) := by
  have dm : Int32.toInt (-1) = -1 := by decide
  unfold zX10_setsTurn
  refine dA_L (fun q1 e1 => dA_L (fun q2 e2 => dA_L (fun q3 e3 => dA_V (m_asked q3 (-1) (-1) p4) (fun q6 z => dA_some ?_))))
  obtain ⟨z0, z3, z4, z5, z6, z7, z8, z9, z10⟩ := z
  have s3 : ∀ j : Nat, ¬ j = 12 → q3.1 j = q.1 j := fun j hj => by rw [e3, dui_o hj, e2, dui_o hj, e1, dui_o hj]
  rw [s3 2 (by decide)] at z3 z6 z8
  refine ⟨all9 ?_ ?_ ?_ ?_ ?_ ?_ ?_ ?_ ?_, fun j hj => by rw [z9 j hj, s3 j hj], by rw [z10, e3, e2, e1]; rfl⟩
  · show Int32.toInt (q6.1 12 0) = Int32.toInt p1
    rw [z0 0 (by decide), e3, dui_n (by decide), e2, dui_n (by decide), e1, dui_e]
  · show Int32.toInt (q6.1 12 1) = Int32.toInt p2
    rw [z0 1 (by decide), e3, dui_n (by decide), e2, dui_e]
  · show Int32.toInt (q6.1 12 2) = Int32.toInt p3
    rw [z0 2 (by decide), e3, dui_e]
  · show Int32.toInt (q6.1 12 7) = Int32.toInt p4
    rw [z7]
  · show Int32.toInt (q6.1 12 3) = Int32.toInt (q.1 2 29)
    rw [z3]
  · show Int32.toInt (q6.1 12 4) = -1
    rw [z4]; exact dm
  · show Int32.toInt (q6.1 12 5) = -1
    rw [z5]; exact dm
  · show Int32.toInt (q6.1 12 8) = Int32.toInt (q.1 2 13)
    rw [z8]
  · show Int32.toInt (q6.1 12 6) = Int32.toInt (q.1 2 27)
    rw [z6]
/-- a floor's words, there -/
theorem m_setsFloor (q : dS) (p1 : Int32) {p : Nat} (hp : Int32.toInt p1 = (p : Int)) (hp6 : p < 6) : dAll (zX10_setsFloor q p1) (fun o => (∀ j : Nat, j < 9 → Int32.toInt (o.1 12 (wcd_3 j - 8)) = w9 (-1) (-1) (-1) (Int32.toInt (q.1 2 (6 + p))) (Int32.toInt (q.1 2 29)) (Int32.toInt (q.1 2 p)) (p : Int) (Int32.toInt (q.1 2 13)) (Int32.toInt (q.1 2 27)) j) ∧ m12 q o) := by
  have dm : Int32.toInt (-1) = -1 := by decide
  have d0 : Int32.toInt 0 = 0 := by decide
  have d6 : Int32.toInt 6 = 6 := by decide
  have n0 : Int32.toNatClampNeg (0 + p1 : Int32) = p := by
    have z : Int32.toInt (0 + p1 : Int32) = 0 + (p : Int) := ti_add d0 hp (by omega) (by omega)
    have n := cl_eq (i := (0 + p1 : Int32)) (by omega)
    omega
  have n6 : Int32.toNatClampNeg (6 + p1 : Int32) = 6 + p := by
    have z : Int32.toInt (6 + p1 : Int32) = 6 + (p : Int) := ti_add d6 hp (by omega) (by omega)
    have n := cl_eq (i := (6 + p1 : Int32)) (by omega)
    omega
  unfold zX10_setsFloor
  refine dA_L (fun q1 e1 => dA_L (fun q2 e2 => dA_L (fun q3 e3 => dA_G (fun _ => dA_L (fun v5 e5 => dA_G (fun _ => dA_L (fun v7 e7 => dA_V (m_asked q3 v5 p1 v7) (fun q6 z => dA_some ?_))))))))
  obtain ⟨z0, z3, z4, z5, z6, z7, z8, z9, z10⟩ := z
  have s3 : ∀ j : Nat, ¬ j = 12 → q3.1 j = q.1 j := fun j hj => by rw [e3, dui_o hj, e2, dui_o hj, e1, dui_o hj]
  rw [s3 2 (by decide)] at z3 z6 z8
  rw [s3 2 (by decide), n0] at e5
  rw [s3 2 (by decide), n6] at e7
  refine ⟨all9 ?_ ?_ ?_ ?_ ?_ ?_ ?_ ?_ ?_, fun j hj => by rw [z9 j hj, s3 j hj], by rw [z10, e3, e2, e1]; rfl⟩
  · show Int32.toInt (q6.1 12 0) = -1
    rw [z0 0 (by decide), e3, dui_n (by decide), e2, dui_n (by decide), e1, dui_e]; exact dm
  · show Int32.toInt (q6.1 12 1) = -1
    rw [z0 1 (by decide), e3, dui_n (by decide), e2, dui_e]; exact dm
  · show Int32.toInt (q6.1 12 2) = -1
    rw [z0 2 (by decide), e3, dui_e]; exact dm
  · show Int32.toInt (q6.1 12 7) = Int32.toInt (q.1 2 (6 + p))
    rw [z7, e7]
  · show Int32.toInt (q6.1 12 3) = Int32.toInt (q.1 2 29)
    rw [z3]
  · show Int32.toInt (q6.1 12 4) = Int32.toInt (q.1 2 p)
    rw [z4, e5]
  · show Int32.toInt (q6.1 12 5) = (p : Int)
    rw [z5]; exact hp
  · show Int32.toInt (q6.1 12 8) = Int32.toInt (q.1 2 13)
    rw [z8]
  · show Int32.toInt (q6.1 12 6) = Int32.toInt (q.1 2 27)
    rw [z6]
theorem m_below (q : dS) (p1 : Int32) {k : Nat} (hk : Int32.toInt p1 = (k : Int)) (hk6 : k ≤ 6) : dAll (zX10_rankBelow q p1) (fun o => Int32.toInt o.1 = (if (k : Int) < Int32.toInt (q.1 2 29) then Int32.toInt (q.1 2 k) else -1) ∧ o.2 = q) := by
  have dm : Int32.toInt (-1) = -1 := by decide
  have d0 : Int32.toInt 0 = 0 := by decide
  have n0 : Int32.toNatClampNeg (0 + p1 : Int32) = k := by
    have z : Int32.toInt (0 + p1 : Int32) = 0 + (k : Int) := ti_add d0 hk (by omega) (by omega)
    have n := cl_eq (i := (0 + p1 : Int32)) (by omega)
    omega
  unfold zX10_rankBelow zX10_rankBelow_20
  refine dA_B (m_size q) (fun r1 q3 z => ?_)
  obtain ⟨z1, z2⟩ := z
  replace z1 : r1 = q.1 2 29 := z1
  replace z2 : q3 = q := z2
  subst z2
  refine dA_le (fun c => dA_some ⟨?_, rfl⟩) (fun c => dA_G (fun _ => dA_L (fun v5 e5 => dA_some ⟨?_, rfl⟩)))
  · rw [z1] at c
    rw [if_neg (by omega)]; exact dm
  · rw [z1] at c
    show Int32.toInt v5 = _
    rw [if_pos (by omega), e5, n0]
/-- only the words' row, here -/
def k21 (q o : dK) : Prop := (∀ j : Nat, ¬ j = 21 → o.1 j = q.1 j) ∧ o.2 = q.2 ∧ o.1 21 8 = q.1 21 8
theorem k21.i {q o : dK} {k : Nat} {v : Int32} (h : k21 q o) (hk : ¬ 8 = k) : k21 q (cui o 21 k v) := ⟨fun j hj => by rw [cui_o hj]; exact h.1 j hj, h.2.1, by rw [cui_n hk]; exact h.2.2⟩
theorem k21.rf {q : dK} : k21 q q := ⟨fun _ _ => rfl, rfl, rfl⟩
theorem c_grip (q : dK) (p1 p2 p3 p4 : Int32) : dAll (zX1_setGrip_s20 q p1 p2 p3 p4) (fun o => o.1 21 0 = p1 ∧ o.1 21 1 = p2 ∧ o.1 21 2 = p3 ∧ o.1 21 3 = p4 ∧ o.1 21 4 = q.1 21 4 ∧ o.1 21 5 = -1 ∧ o.1 21 6 = -1 ∧ o.1 21 7 = q.1 21 7 ∧ o.1 21 8 = q.1 21 8 ∧ k21 q o) := by
  unfold zX1_setGrip_s20
  refine dA_L (fun q1 e1 => dA_L (fun q2 e2 => dA_L (fun q3 e3 => dA_L (fun q4 e4 => dA_L (fun q5 e5 => dA_L (fun q6 e6 => dA_some ⟨?_, ?_, ?_, ?_, ?_, ?_, ?_, ?_, ?_, ?_⟩))))))
  · rw [e6, cui_n (by decide), e5, cui_n (by decide), e4, cui_n (by decide), e3, cui_n (by decide), e2, cui_n (by decide), e1, cui_e]
  · rw [e6, cui_n (by decide), e5, cui_n (by decide), e4, cui_n (by decide), e3, cui_n (by decide), e2, cui_e]
  · rw [e6, cui_n (by decide), e5, cui_n (by decide), e4, cui_n (by decide), e3, cui_e]
  · rw [e6, cui_n (by decide), e5, cui_n (by decide), e4, cui_e]
  · rw [e6, cui_n (by decide), e5, cui_n (by decide), e4, cui_n (by decide), e3, cui_n (by decide), e2, cui_n (by decide), e1, cui_n (by decide)]
  · rw [e6, cui_n (by decide), e5, cui_e]
  · rw [e6, cui_e]
  · rw [e6, cui_n (by decide), e5, cui_n (by decide), e4, cui_n (by decide), e3, cui_n (by decide), e2, cui_n (by decide), e1, cui_n (by decide)]
  · rw [e6, cui_n (by decide), e5, cui_n (by decide), e4, cui_n (by decide), e3, cui_n (by decide), e2, cui_n (by decide), e1, cui_n (by decide)]
  · rw [e6, e5, e4, e3, e2, e1]
    exact (((((k21.rf.i (by decide)).i (by decide)).i (by decide)).i (by decide)).i (by decide)).i (by decide)
theorem c_common (q : dK) (p1 p2 : Int32) : dAll (zX1_setCommon_s20 q p1 p2) (fun o => o.1 21 4 = p1 ∧ o.1 21 7 = p2 ∧ o.1 21 8 = q.1 21 8 ∧ k21 q o) := by
  unfold zX1_setCommon_s20
  refine dA_L (fun q1 e1 => dA_L (fun q2 e2 => dA_some ⟨?_, ?_, ?_, ?_⟩))
  · rw [e2, cui_n (by decide), e1, cui_e]
  · rw [e2, cui_e]
  · rw [e2, cui_n (by decide), e1, cui_n (by decide)]
  · rw [e2, e1]; exact (k21.rf.i (by decide)).i (by decide)
theorem c_bit (p1 : Int32) (h : p1 = 0 ∨ p1 = 1) : dAll (zX9_isBit p1) (fun r => r = 1) := by
  unfold zX9_isBit zX9_isBit_9 zX9_isBit_14
  refine dA_if (fun _ => dA_G (fun _ => dA_some rfl)) (fun c => dA_if (fun _ => dA_G (fun _ => dA_some rfl)) (fun c2 => ?_))
  rcases h with h | h
  · exact absurd h c
  · exact absurd h c2
theorem c_floor_s2 (q : dK) (p1 : Int32) : dAll (zX8_isFloor_s2 q p1) (fun o => o.2 = q ∧ ((o.1 = 1 ∧ 0 ≤ Int32.toInt p1 ∧ Int32.toInt p1 < Int32.toInt (q.1 2 2)) ∨ (o.1 = 0 ∧ ¬ (0 ≤ Int32.toInt p1 ∧ Int32.toInt p1 < Int32.toInt (q.1 2 2))))) := by
  have d0 : Int32.toInt 0 = 0 := by decide
  unfold zX8_isFloor_s2 zX8_isFloor_s2_16 zX8_isFloor_s2_17
  exact dA_lt (fun c => dA_G (fun _ => dA_some ⟨rfl, Or.inr ⟨rfl, by omega⟩⟩)) (fun c => dA_le (fun c2 => dA_G (fun _ => dA_some ⟨rfl, Or.inr ⟨rfl, by omega⟩⟩)) (fun c2 => dA_G (fun _ => dA_some ⟨rfl, Or.inl ⟨rfl, by omega, by omega⟩⟩)))
theorem c_tell_s2 (q : dK) (p1 p2 : Int32) {p : Nat} (hp : Int32.toInt p1 = (p : Int)) (h : p2 = 0 ∨ p2 = 1) : dAll (zX8_tell_s2 q p1 p2) (fun o => o.2 = q ∧ Int32.toInt o.1 = if (p : Int) < Int32.toInt (q.1 2 2) then (if p2 = 0 then Int32.toInt (q.1 3 p) else Int32.toInt (q.1 4 p)) else -1) := by
  have dm : Int32.toInt (-1) = -1 := by decide
  have n := cl_eq (i := p1) (by omega)
  have en : Int32.toNatClampNeg p1 = p := by omega
  unfold zX8_tell_s2 zX8_tell_s2_15 zX8_tell_s2_36
  refine dA_B (c_floor_s2 q p1) (fun r1 q3 z => ?_)
  obtain ⟨z1, z2⟩ := z
  replace z1 : q3 = q := z1
  replace z2 : (r1 = 1 ∧ 0 ≤ Int32.toInt p1 ∧ Int32.toInt p1 < Int32.toInt (q.1 2 2)) ∨ (r1 = 0 ∧ ¬ (0 ≤ Int32.toInt p1 ∧ Int32.toInt p1 < Int32.toInt (q.1 2 2))) := z2
  subst z1
  rcases z2 with ⟨z2, z3, z4⟩ | ⟨z2, z3⟩
  · refine dA_if (fun c => absurd (z2.symm.trans c) (by decide)) (fun _ => dA_V (c_bit p2 h) (fun r4 e4 => dA_if (fun c => absurd (e4.symm.trans c) (by decide)) (fun _ => dA_if (fun c => dA_G (fun _ => dA_L (fun v e => dA_some ⟨rfl, ?_⟩))) (fun c => dA_G (fun _ => dA_L (fun v e => dA_some ⟨rfl, ?_⟩))))))
    · show Int32.toInt v = _
      rw [if_pos (by omega), if_pos c, e, en]
    · show Int32.toInt v = _
      rw [if_pos (by omega), if_neg c, e, en]
  · refine dA_if (fun _ => dA_some ⟨rfl, ?_⟩) (fun c => absurd z2 c)
    rw [if_neg (by omega)]; exact dm
/-- a turn's words, here -/
theorem c_setTurn_s2 (q : dK) (p2 : Int32) {k : Nat} (hk : Int32.toInt p2 = (k : Int)) : dAll (zX1_setTurn_s20_s2 q p2) (fun o => (∀ j : Nat, j < 9 → Int32.toInt (o.1 21 j) = w9 (k : Int) (if (0 : Int) < Int32.toInt (q.1 2 2) then Int32.toInt (q.1 3 0) else -1) (if (k : Int) < Int32.toInt (q.1 2 2) then Int32.toInt (q.1 3 k) else -1) (if (0 : Int) < Int32.toInt (q.1 2 2) then Int32.toInt (q.1 4 0) else -1) (Int32.toInt (q.1 2 2)) (-1) (-1) (Int32.toInt (q.1 2 4)) (Int32.toInt (q.1 21 8)) j) ∧ k21 q o) := by
  have dm : Int32.toInt (-1) = -1 := by decide
  have d0 : Int32.toInt 0 = ((0 : Nat) : Int) := by decide
  unfold zX1_setTurn_s20_s2
  refine dA_V (c_common q (q.1 2 2) (q.1 2 4)) (fun q3 z3 => ?_)
  obtain ⟨a1, a2, a3, a4, a5⟩ := z3
  refine dA_B (c_tell_s2 q3 0 0 d0 (Or.inl rfl)) (fun r4 q6 z => ?_)
  obtain ⟨b1, b2⟩ := z
  replace b1 : q6 = q3 := b1
  replace b2 : Int32.toInt r4 = if ((0 : Nat) : Int) < Int32.toInt (q3.1 2 2) then (if (0 : Int32) = 0 then Int32.toInt (q3.1 3 0) else Int32.toInt (q3.1 4 0)) else -1 := b2
  subst b1
  refine dA_B (c_tell_s2 q6 p2 0 hk (Or.inl rfl)) (fun r7 q9 z => ?_)
  obtain ⟨c1, c2⟩ := z
  replace c1 : q9 = q6 := c1
  replace c2 : Int32.toInt r7 = if (k : Int) < Int32.toInt (q6.1 2 2) then (if (0 : Int32) = 0 then Int32.toInt (q6.1 3 k) else Int32.toInt (q6.1 4 k)) else -1 := c2
  subst c1
  refine dA_B (c_tell_s2 q9 0 1 d0 (Or.inr rfl)) (fun r10 q12 z => ?_)
  obtain ⟨e1, e2⟩ := z
  replace e1 : q12 = q9 := e1
  replace e2 : Int32.toInt r10 = if ((0 : Nat) : Int) < Int32.toInt (q9.1 2 2) then (if (1 : Int32) = 0 then Int32.toInt (q9.1 3 0) else Int32.toInt (q9.1 4 0)) else -1 := e2
  subst e1
  rw [if_pos rfl, a4 2 (by decide), a4 3 (by decide)] at b2
  rw [if_pos rfl, a4 2 (by decide), a4 3 (by decide)] at c2
  rw [if_neg (show ¬ (1 : Int32) = 0 by decide), a4 2 (by decide), a4 4 (by decide)] at e2
  refine dA_V (c_grip q12 p2 r4 r7 r10) (fun q15 z => dA_some ?_)
  obtain ⟨g0, g1, g2, g3, g4, g5, g6, g7, g8, g9, g10⟩ := z
  refine ⟨all9 ?_ ?_ ?_ ?_ ?_ ?_ ?_ ?_ ?_, fun j hj => by rw [g9 j hj, a4 j hj], g10.1.trans a5.1, g10.2.trans a5.2⟩
  · show Int32.toInt (q15.1 21 0) = (k : Int)
    rw [g0]; exact hk
  · show Int32.toInt (q15.1 21 1) = _
    rw [g1]; exact b2
  · show Int32.toInt (q15.1 21 2) = _
    rw [g2]; exact c2
  · show Int32.toInt (q15.1 21 3) = _
    rw [g3]; exact e2
  · show Int32.toInt (q15.1 21 4) = Int32.toInt (q.1 2 2)
    rw [g4, a1]
  · show Int32.toInt (q15.1 21 5) = -1
    rw [g5]; exact dm
  · show Int32.toInt (q15.1 21 6) = -1
    rw [g6]; exact dm
  · show Int32.toInt (q15.1 21 7) = Int32.toInt (q.1 2 4)
    rw [g7, a2]
  · show Int32.toInt (q15.1 21 8) = Int32.toInt (q.1 21 8)
    rw [g8, a3]
theorem c_floor_s15 (q : dK) (p1 : Int32) : dAll (zX8_isFloor_s15 q p1) (fun o => o.2 = q ∧ ((o.1 = 1 ∧ 0 ≤ Int32.toInt p1 ∧ Int32.toInt p1 < Int32.toInt (q.1 15 2)) ∨ (o.1 = 0 ∧ ¬ (0 ≤ Int32.toInt p1 ∧ Int32.toInt p1 < Int32.toInt (q.1 15 2))))) := by
  have d0 : Int32.toInt 0 = 0 := by decide
  unfold zX8_isFloor_s15 zX8_isFloor_s15_16 zX8_isFloor_s15_17
  exact dA_lt (fun c => dA_G (fun _ => dA_some ⟨rfl, Or.inr ⟨rfl, by omega⟩⟩)) (fun c => dA_le (fun c2 => dA_G (fun _ => dA_some ⟨rfl, Or.inr ⟨rfl, by omega⟩⟩)) (fun c2 => dA_G (fun _ => dA_some ⟨rfl, Or.inl ⟨rfl, by omega, by omega⟩⟩)))
theorem c_tell_s15 (q : dK) (p1 p2 : Int32) {p : Nat} (hp : Int32.toInt p1 = (p : Int)) (h : p2 = 0 ∨ p2 = 1) : dAll (zX8_tell_s15 q p1 p2) (fun o => o.2 = q ∧ Int32.toInt o.1 = if (p : Int) < Int32.toInt (q.1 15 2) then (if p2 = 0 then Int32.toInt (q.1 16 p) else Int32.toInt (q.1 17 p)) else -1) := by
  have dm : Int32.toInt (-1) = -1 := by decide
  have n := cl_eq (i := p1) (by omega)
  have en : Int32.toNatClampNeg p1 = p := by omega
  unfold zX8_tell_s15 zX8_tell_s15_15 zX8_tell_s15_36
  refine dA_B (c_floor_s15 q p1) (fun r1 q3 z => ?_)
  obtain ⟨z1, z2⟩ := z
  replace z1 : q3 = q := z1
  replace z2 : (r1 = 1 ∧ 0 ≤ Int32.toInt p1 ∧ Int32.toInt p1 < Int32.toInt (q.1 15 2)) ∨ (r1 = 0 ∧ ¬ (0 ≤ Int32.toInt p1 ∧ Int32.toInt p1 < Int32.toInt (q.1 15 2))) := z2
  subst z1
  rcases z2 with ⟨z2, z3, z4⟩ | ⟨z2, z3⟩
  · refine dA_if (fun c => absurd (z2.symm.trans c) (by decide)) (fun _ => dA_V (c_bit p2 h) (fun r4 e4 => dA_if (fun c => absurd (e4.symm.trans c) (by decide)) (fun _ => dA_if (fun c => dA_G (fun _ => dA_L (fun v e => dA_some ⟨rfl, ?_⟩))) (fun c => dA_G (fun _ => dA_L (fun v e => dA_some ⟨rfl, ?_⟩))))))
    · show Int32.toInt v = _
      rw [if_pos (by omega), if_pos c, e, en]
    · show Int32.toInt v = _
      rw [if_pos (by omega), if_neg c, e, en]
  · refine dA_if (fun _ => dA_some ⟨rfl, ?_⟩) (fun c => absurd z2 c)
    rw [if_neg (by omega)]; exact dm
/-- a turn's words, here -/
theorem c_setTurn_s15 (q : dK) (p2 : Int32) {k : Nat} (hk : Int32.toInt p2 = (k : Int)) : dAll (zX1_setTurn_s20_s15 q p2) (fun o => (∀ j : Nat, j < 9 → Int32.toInt (o.1 21 j) = w9 (k : Int) (if (0 : Int) < Int32.toInt (q.1 15 2) then Int32.toInt (q.1 16 0) else -1) (if (k : Int) < Int32.toInt (q.1 15 2) then Int32.toInt (q.1 16 k) else -1) (if (0 : Int) < Int32.toInt (q.1 15 2) then Int32.toInt (q.1 17 0) else -1) (Int32.toInt (q.1 15 2)) (-1) (-1) (Int32.toInt (q.1 15 4)) (Int32.toInt (q.1 21 8)) j) ∧ k21 q o) := by
  have dm : Int32.toInt (-1) = -1 := by decide
  have d0 : Int32.toInt 0 = ((0 : Nat) : Int) := by decide
  unfold zX1_setTurn_s20_s15
  refine dA_V (c_common q (q.1 15 2) (q.1 15 4)) (fun q3 z3 => ?_)
  obtain ⟨a1, a2, a3, a4, a5⟩ := z3
  refine dA_B (c_tell_s15 q3 0 0 d0 (Or.inl rfl)) (fun r4 q6 z => ?_)
  obtain ⟨b1, b2⟩ := z
  replace b1 : q6 = q3 := b1
  replace b2 : Int32.toInt r4 = if ((0 : Nat) : Int) < Int32.toInt (q3.1 15 2) then (if (0 : Int32) = 0 then Int32.toInt (q3.1 16 0) else Int32.toInt (q3.1 17 0)) else -1 := b2
  subst b1
  refine dA_B (c_tell_s15 q6 p2 0 hk (Or.inl rfl)) (fun r7 q9 z => ?_)
  obtain ⟨c1, c2⟩ := z
  replace c1 : q9 = q6 := c1
  replace c2 : Int32.toInt r7 = if (k : Int) < Int32.toInt (q6.1 15 2) then (if (0 : Int32) = 0 then Int32.toInt (q6.1 16 k) else Int32.toInt (q6.1 17 k)) else -1 := c2
  subst c1
  refine dA_B (c_tell_s15 q9 0 1 d0 (Or.inr rfl)) (fun r10 q12 z => ?_)
  obtain ⟨e1, e2⟩ := z
  replace e1 : q12 = q9 := e1
  replace e2 : Int32.toInt r10 = if ((0 : Nat) : Int) < Int32.toInt (q9.1 15 2) then (if (1 : Int32) = 0 then Int32.toInt (q9.1 16 0) else Int32.toInt (q9.1 17 0)) else -1 := e2
  subst e1
  rw [if_pos rfl, a4 15 (by decide), a4 16 (by decide)] at b2
  rw [if_pos rfl, a4 15 (by decide), a4 16 (by decide)] at c2
  rw [if_neg (show ¬ (1 : Int32) = 0 by decide), a4 15 (by decide), a4 17 (by decide)] at e2
  refine dA_V (c_grip q12 p2 r4 r7 r10) (fun q15 z => dA_some ?_)
  obtain ⟨g0, g1, g2, g3, g4, g5, g6, g7, g8, g9, g10⟩ := z
  refine ⟨all9 ?_ ?_ ?_ ?_ ?_ ?_ ?_ ?_ ?_, fun j hj => by rw [g9 j hj, a4 j hj], g10.1.trans a5.1, g10.2.trans a5.2⟩
  · show Int32.toInt (q15.1 21 0) = (k : Int)
    rw [g0]; exact hk
  · show Int32.toInt (q15.1 21 1) = _
    rw [g1]; exact b2
  · show Int32.toInt (q15.1 21 2) = _
    rw [g2]; exact c2
  · show Int32.toInt (q15.1 21 3) = _
    rw [g3]; exact e2
  · show Int32.toInt (q15.1 21 4) = Int32.toInt (q.1 15 2)
    rw [g4, a1]
  · show Int32.toInt (q15.1 21 5) = -1
    rw [g5]; exact dm
  · show Int32.toInt (q15.1 21 6) = -1
    rw [g6]; exact dm
  · show Int32.toInt (q15.1 21 7) = Int32.toInt (q.1 15 4)
    rw [g7, a2]
  · show Int32.toInt (q15.1 21 8) = Int32.toInt (q.1 21 8)
    rw [g8, a3]

