/-! the whole state on both sides -/
def RFw (q : dK) (q2 : dS) : Prop := SRl 1 2 q (q2.1 2) ∧ HRl q q2 ∧ (∀ k : Nat, k < 2 → Int32.toInt (q.1 9 k) = Int32.toInt (q2.1 4 k)) ∧ (¬ q2.1 4 0 = 0 → SRl 49 50 q (fun k => q2.1 3 k)) ∧ (¬ q2.1 4 1 = 0 → SRl 56 57 q (fun k => q2.1 3 (5640 + k)))
theorem SRl.fr {s t : Nat} {q o : dK} {R S : Nat → Int32} (h : SRl s t q R) (hr : ∀ j k : Nat, (j = s ∨ j = t ∨ j = t + 1 ∨ j = t + 2 ∨ j = s + 4 ∨ j = s + 5 ∨ j = s + 6) → o.1 j k = q.1 j k) (hX : Pfx q o) (hR : ∀ k : Nat, S k = R k) : SRl s t o S :=
  h.mv (h.1.q (fun k => hr t k (by omega)) (fun k => hr (t + 1) k (by omega)) (fun k => hr (t + 2) k (by omega)) (fun k _ => hR k)) (fun k => hr s k (by omega)) (fun k => hr (s + 4) k (by omega)) (fun k => hr (s + 5) k (by omega)) (fun k => hr (s + 6) k (by omega)) hX (fun k _ => hR k)
theorem RFw.im {q o : dK} {q2 o2 : dS} (h : RFw q q2) (hs : SRl 1 2 o (o2.1 2)) (hh : HRl o o2) (hr : ∀ j k : Nat, (j = 9 ∨ (49 ≤ j ∧ j ≤ 62)) → o.1 j k = q.1 j k) (hX : Pfx q o) (h3 : ∀ k : Nat, o2.1 3 k = q2.1 3 k) (h4 : ∀ k : Nat, o2.1 4 k = q2.1 4 k) : RFw o o2 := by
  obtain ⟨-, -, k3, k4, k5⟩ := h
  refine ⟨hs, hh, fun k hk => by rw [hr 9 k (Or.inl rfl), h4]; exact k3 k hk, fun z => ?_, fun z => ?_⟩
  · rw [h4] at z
    exact (k4 z).fr (fun j k hj => hr j k (by omega)) hX (fun k => h3 k)
  · rw [h4] at z
    exact (k5 z).fr (fun j k hj => hr j k (by omega)) hX (fun k => h3 _)
theorem RFw.mv {q o : dK} {q2 o2 : dS} (h : RFw q q2) (m : MV q q2 o o2) : RFw o o2 := by
  obtain ⟨m1, m2, m3, m4, m5, m6, m7, m8⟩ := m
  refine h.im m1 m2 (fun j k hj => m3 j k ?_ (by omega) (by omega) (by omega) (by omega)) (Pfx.eq m5) (fun k => m6 3 k (by decide) (by omega)) (fun k => m6 4 k (by decide) (by omega))
  simp only [List.mem_cons, List.not_mem_nil, or_false, not_or]
  omega
/-- a call that changes nothing of the state -/
theorem RFw.fr {q o : dK} {q2 o2 : dS} (h : RFw q q2) (hr : ∀ j k : Nat, ((1 ≤ j ∧ j ≤ 7) ∨ j = 9 ∨ j = 10 ∨ j = 12 ∨ (49 ≤ j ∧ j ≤ 62)) → o.1 j k = q.1 j k) (hl : o.2.1 11 = q.2.1 11) (hX : Pfx q o) (h2 : ∀ j k : Nat, (j = 2 ∨ j = 3 ∨ j = 4 ∨ j = 14) → o2.1 j k = q2.1 j k) (h32 : o2.1 0 32 = q2.1 0 32) : RFw o o2 :=
  h.im (h.1.fr (fun j k hj => hr j k (by omega)) hX (fun k => h2 2 k (by omega))) (h.2.1.fr (hr 10 2 (by omega)) hl (fun k => hr 12 k (by omega)) h32 (fun k => h2 14 k (by omega)) (h2 2 29 (by omega))) (fun j k hj => hr j k (by omega)) hX (fun k => h2 3 k (by omega)) (fun k => h2 4 k (by omega))
/-- the tokens laid down, there -/
theorem m_lays (q : dS) (p1 : Int32) (t n : Nat) (hp : p1.toInt = (t : Int)) (ht : t ≤ 5) (hn : (q.1 0 18).toInt = (n : Int)) (hn4 : n ≤ 400) : dAll (zX10_lays q p1) (fun Q => (∀ j k : Nat, ¬ j = 2 → Q.1 j k = q.1 j k) ∧ Q.2 = q.2 ∧ ∀ i : Nat, Q.1 2 i = if 2840 + 400 * t ≤ i ∧ i < 2840 + 400 * t + n then q.1 10 (i - (2840 + 400 * t)) else if 40 + 400 * t ≤ i ∧ i < 40 + 400 * t + n then q.1 9 (i - (40 + 400 * t)) else if i = 33 + t then q.1 0 18 else q.1 2 i) := by
  have d0 : Int32.toInt 0 = 0 := by decide
  have d1 : Int32.toInt 1 = 1 := by decide
  unfold zX10_lays
  have t1 : Int32.toInt (33 + p1) = 33 + (t : Int) := ti_add (by decide) hp (by omega) (by omega)
  have n1 : Int32.toNatClampNeg (33 + p1) = 33 + t := by
    have := cl_eq (i := 33 + p1) (by omega)
    omega
  rw [n1]
  refine dA_G (fun _ => dA_L (fun q2 e2 => ?_))
  unfold zX10_lays_15
  refine dA_fix (fun (a : dS × Int32 × Int32) => a.2.1 = p1 ∧ (∀ j k : Nat, ¬ j = 2 → a.1.1 j k = q.1 j k) ∧ a.1.2 = q.2 ∧ ∃ m : Nat, m ≤ n ∧ Int32.toInt a.2.2 = (m : Int) ∧ ∀ i : Nat, a.1.1 2 i = if 2840 + 400 * t ≤ i ∧ i < 2840 + 400 * t + m then q.1 10 (i - (2840 + 400 * t)) else if 40 + 400 * t ≤ i ∧ i < 40 + 400 * t + m then q.1 9 (i - (40 + 400 * t)) else if i = 33 + t then q.1 0 18 else q.1 2 i) ?_ dF _ ⟨rfl, fun j k hj => by rw [e2, dui_o hj], by rw [e2]; rfl, 0, Nat.zero_le _, d0, fun i => ?_⟩
  · intro k hk a ha
    obtain ⟨qa, x1, x2⟩ := a
    obtain ⟨h1, h2, h3, m, hm, h4, h5⟩ := ha
    replace h1 : x1 = p1 := h1
    replace h2 : ∀ j k : Nat, ¬ j = 2 → qa.1 j k = q.1 j k := h2
    replace h3 : qa.2 = q.2 := h3
    replace h4 : Int32.toInt x2 = (m : Int) := h4
    replace h5 : ∀ i : Nat, qa.1 2 i = if 2840 + 400 * t ≤ i ∧ i < 2840 + 400 * t + m then q.1 10 (i - (2840 + 400 * t)) else if 40 + 400 * t ≤ i ∧ i < 40 + 400 * t + m then q.1 9 (i - (40 + 400 * t)) else if i = 33 + t then q.1 0 18 else q.1 2 i := h5
    subst h1
    show dAll (zX10_lays_15b (fun q x1 x2 => k (q, x1, x2)) qa x1 x2) _
    unfold zX10_lays_15b
    rw [h2 0 18 (by decide)]
    refine dA_le (fun c => ?_) (fun c => ?_)
    · have e : m = n := by omega
      subst e
      exact dA_some ⟨h2, h3, h5⟩
    have nm : Int32.toNatClampNeg x2 = m := by have n := cl_eq (i := x2) (by omega); omega
    have t2 : Int32.toInt (400 * x1) = 400 * (t : Int) := ti_mul (by decide) hp (by omega) (by omega)
    have t3 : Int32.toInt (40 + 400 * x1) = 40 + 400 * (t : Int) := ti_add (by decide) t2 (by omega) (by omega)
    have t4 : Int32.toInt (40 + 400 * x1 + x2) = 40 + 400 * (t : Int) + m := ti_add t3 h4 (by omega) (by omega)
    have t5 : Int32.toInt (2840 + 400 * x1) = 2840 + 400 * (t : Int) := ti_add (by decide) t2 (by omega) (by omega)
    have t6 : Int32.toInt (2840 + 400 * x1 + x2) = 2840 + 400 * (t : Int) + m := ti_add t5 h4 (by omega) (by omega)
    have n4 : Int32.toNatClampNeg (40 + 400 * x1 + x2) = 40 + 400 * t + m := by
      have := cl_eq (i := 40 + 400 * x1 + x2) (by omega)
      omega
    have n6 : Int32.toNatClampNeg (2840 + 400 * x1 + x2) = 2840 + 400 * t + m := by
      have := cl_eq (i := 2840 + 400 * x1 + x2) (by omega)
      omega
    rw [nm, n4, n6]
    refine dA_G (fun _ => dA_L (fun v2 ev2 => dA_G (fun _ => dA_L (fun q4 e4 => dA_G (fun _ => dA_L (fun v6 ev6 => dA_G (fun _ => dA_L (fun q8 e8 => ?_))))))))
    refine hk (q8, x1, x2 + 1) ⟨rfl, fun j b hj => ?_, ?_, m + 1, by omega, by show Int32.toInt (x2 + 1) = _; rw [ti_add h4 d1 (by omega) (by omega)]; omega, fun i => ?_⟩
    · show q8.1 j b = _
      rw [e8, dui_o hj, e4, dui_o hj]; exact h2 j b hj
    · show q8.2 = _
      rw [e8]
      show q4.2 = _
      rw [e4]; exact h3
    · show q8.1 2 i = _
      have v2e : v2 = q.1 9 m := by rw [ev2]; exact h2 9 m (by decide)
      have v6e : v6 = q.1 10 m := by rw [ev6, e4, dui_o (by decide)]; exact h2 10 m (by decide)
      rw [e8]
      by_cases c1 : i = 2840 + 400 * t + m
      · rw [c1, dui_e, if_pos (by omega), v6e, show 2840 + 400 * t + m - (2840 + 400 * t) = m by omega]
      · rw [dui_n c1, e4]
        by_cases c2 : i = 40 + 400 * t + m
        · rw [c2, dui_e, if_neg (by omega), if_pos (by omega), v2e, show 40 + 400 * t + m - (40 + 400 * t) = m by omega]
        · rw [dui_n c2, h5 i]
          by_cases c3 : 2840 + 400 * t ≤ i ∧ i < 2840 + 400 * t + m
          · rw [if_pos c3, if_pos (by omega)]
          · rw [if_neg c3, if_neg (show ¬ (2840 + 400 * t ≤ i ∧ i < 2840 + 400 * t + (m + 1)) by omega)]
            by_cases c4 : 40 + 400 * t ≤ i ∧ i < 40 + 400 * t + m
            · rw [if_pos c4, if_pos (by omega)]
            · rw [if_neg c4, if_neg (show ¬ (40 + 400 * t ≤ i ∧ i < 40 + 400 * t + (m + 1)) by omega)]
  · show q2.1 2 i = _
    rw [if_neg (by omega), if_neg (by omega), e2]
    by_cases c : i = 33 + t
    · rw [c, dui_e, if_pos rfl]
    · rw [dui_n c, if_neg c]
/-- a law read and kept -/
theorem sf_law {q : dK} {q2 : dS} (hT : TC q) (hT2 : TS q2) (hL : q.2.2.length < 1000) (ht : ltY q q2) (hF : RFw q q2) : d2 (zX9_law_s0 468 q) (zX10_law q2) (fun o o2 => RFw o.2 o2.2) := by
  have d6 : Int32.toInt 6 = 6 := by decide
  have d1 : Int32.toInt 1 = 1 := by decide
  have dm : Int32.toInt (-1) = -1 := by decide
  have d0 : Int32.toInt 0 = 0 := by decide
  have f18 := rg_1_8 hT
  have h8 : Int32.toInt (q.1 1 8) = Int32.toInt (q2.1 2 31) := hF.1.2.2.2.2.2.1
  obtain ⟨L, hL4, hc, hm, hB⟩ := ht
  unfold zX9_law_s0 zX10_law
  refine d2_lL (fun q1 e1 => ?_)
  have hT1 : TC q1 := by rw [e1]; exact st_0_12 hT (by decide) (by decide)
  have k1 : ∀ j k : Nat, ¬ j = 0 → q1.1 j k = q.1 j k := fun j k hj => by rw [e1, cui_o hj]
  have x1 : q1.2 = q.2 := by rw [e1]; rfl
  refine d2_lif (fun c => ?_) (fun c => ?_)
  · have c6 := Int32.lt_iff_toInt_lt.mp c
    rw [k1 1 8 (by decide)] at c6
    refine d2_rif (fun cm => by rw [cm] at h8; omega) (fun _ => ?_)
    have hread : d2 (zX4_read_s24_s46_s25 q1 (q.1 0 12) 0) (zX10_readsAs q2 0) (fun x y => RdP x y ∧ (TC x.2 ∧ cFr [26, 27, 28, 29, 30, 31] [(24, 0), (24, 1), (24, 2), (24, 3), (24, 4), (24, 5), (24, 6), (24, 7), (24, 8), (24, 9), (24, 10), (25, 6), (25, 7)] q1 x.2) ∧ Lo (q1.2.1 11) (q1.2.1 13) x.2 ∧ TS y.2 ∧ aF q2 y.2 ∧ ∃ (T : Nat) (cs vs : Nat → Int), T ≤ 400 ∧ Int32.toInt (y.2.1 0 18) = (T : Int) ∧ (∀ j : Nat, Int32.toInt (y.2.1 9 j) = cs j ∧ Int32.toInt (y.2.1 10 j) = vs j) ∧ cs T = 0 ∧ (Int32.toInt x.1 = -1 → ∃ m L : Nat, L ≤ 400 ∧ Int32.toInt (x.2.1 25 6) = (m : Int) ∧ Int32.toInt (x.2.1 25 7) = (L : Int) ∧ CLS 0 9 cs vs (x.2.1 26) (x.2.1 27) (x.2.1 28) (x.2.1 29) (x.2.1 30) (x.2.1 31) m T L)) := by
      intro x y ex ey
      have hB1 : ∀ i : Nat, Int32.toInt (q1.1 46 i) = Int32.toInt (q.1 46 i) := fun i => by rw [k1 46 i (by decide)]
      obtain ⟨T, ps, es, hK, h18⟩ := m_readsAs (B := fun i => Int32.toInt (q.1 46 i)) q2 0 L hT2 (Or.inl rfl) hm hL4 hB y ey
      refine ⟨r_read (B := fun i => Int32.toInt (q.1 46 i)) q1 q2 hT2 (q.1 0 12) 0 L hL4 hc (Or.inl rfl) hB1 hm hB x y ex ey, ?_, ?_, ?_⟩
      · exact dA_of (ok_X4_read_s24_s46_s25 q1 (q.1 0 12) 0 hT1 (by omega) (Or.inl (by decide))) x ex
      · exact lo_zX4_read_s24_s46_s25 _ _ q1 (q.1 0 12) 0 ⟨rfl, rfl⟩ x ex
      · have z := dA_of (ok_readsAs false q2 0 hT2 (by decide)) y ey
        refine ⟨z.1, z.2.1, T, _, _, hK.2.1, h18, fun j => ⟨rfl, rfl⟩, hK.2.2.2.2.2.1, fun hx => ?_⟩
        exact x_read (W := 9) hK (Or.inl ⟨rfl, rfl⟩) q1 hT1 (q.1 0 12) 0 hL4 hc d0 hB1 x ex hx
    refine d2_BB hread (fun r3 q4 r4 q3 w => ?_)
    obtain ⟨⟨w1, w2⟩, ⟨w3, w4⟩, w9, w5, ⟨w6, w7⟩, T, cs, vs, y1, y2, y3, y4, y5⟩ := w
    replace w1 : Int32.toInt r3 = Int32.toInt (q3.1 0 14) := w1
    replace w2 : (Int32.toInt r4 = 1 ∧ Int32.toInt r3 = -1) ∨ (Int32.toInt r4 = 0 ∧ ¬ Int32.toInt r3 = -1) := w2
    replace w3 : TC q4 := w3
    replace w4 : cFr [26, 27, 28, 29, 30, 31] [(24, 0), (24, 1), (24, 2), (24, 3), (24, 4), (24, 5), (24, 6), (24, 7), (24, 8), (24, 9), (24, 10), (25, 6), (25, 7)] q1 q4 := w4
    replace w9 : Lo (q1.2.1 11) (q1.2.1 13) q4 := w9
    replace w5 : TS q3 := w5
    replace w6 : dFr [9, 10, 11] [8, 9, 10, 13, 14, 18, 19, 20, 21] q2 q3 := w6
    replace y2 : Int32.toInt (q3.1 0 18) = (T : Int) := y2
    replace y3 : ∀ j : Nat, Int32.toInt (q3.1 9 j) = cs j ∧ Int32.toInt (q3.1 10 j) = vs j := y3
    replace y5 : Int32.toInt r3 = -1 → ∃ m L : Nat, L ≤ 400 ∧ Int32.toInt (q4.1 25 6) = (m : Int) ∧ Int32.toInt (q4.1 25 7) = (L : Int) ∧ CLS 0 9 cs vs (q4.1 26) (q4.1 27) (q4.1 28) (q4.1 29) (q4.1 30) (q4.1 31) m T L := y5
    have m3 : ∀ j k : Nat, (j = 2 ∨ j = 3 ∨ j = 4 ∨ j = 14) → q3.1 j k = q2.1 j k := fun j k hj => congrFun (w6.1 j (by rcases hj with h | h | h | h <;> rw [h] <;> decide) (by omega)) k
    have m32 : q3.1 0 32 = q2.1 0 32 := w6.2 32 (by decide)
    have k4 : ∀ j k : Nat, ((1 ≤ j ∧ j ≤ 7) ∨ j = 9 ∨ j = 10 ∨ j = 12 ∨ (49 ≤ j ∧ j ≤ 62)) → q4.1 j k = q.1 j k := by
      intro j k hj
      rw [w4.1 j k (by simp only [List.mem_cons, List.not_mem_nil, or_false, not_or]; omega) (by simp only [List.mem_cons, List.not_mem_nil, or_false, not_or, Prod.mk.injEq]; omega), k1 j k (by omega)]
    have x4 : q4.2.2 = q.2.2 := by rw [w4.2, x1]
    have l4 : q4.2.1 11 = q.2.1 11 := by rw [w9.1, x1]
    have hF4 : RFw q4 q3 := hF.fr k4 l4 (Pfx.eq x4) m3 m32
    refine d2_lL (fun q5 e5 => ?_)
    have k5 : ∀ j k : Nat, ¬ j = 0 → q5.1 j k = q4.1 j k := fun j k hj => by rw [e5, cui_o hj]
    have x5 : q5.2 = q4.2 := by rw [e5]; rfl
    have b13 : q5.1 0 13 = r3 := by rw [e5, cui_e]
    have hF5 : RFw q5 q3 := hF4.fr (fun j k hj => k5 j k (by omega)) (by rw [x5]) (Pfx.eq (by rw [x5])) (fun _ _ _ => rfl) rfl
    refine d2_lif (fun c1 => ?_) (fun c1 => ?_)
    · have er3 : Int32.toInt r3 = -1 := by rw [← b13, c1]; exact dm
      have er4 : Int32.toInt r4 = 1 := by
        rcases w2 with z | z
        · exact z.1
        · exact absurd er3 z.2
      refine d2_rif (fun z => by rw [z] at er4; omega) (fun _ => ?_)
      obtain ⟨m, Lc, v1, v2, v3, v4⟩ := y5 er3
      obtain ⟨t, htt⟩ : ∃ t : Nat, Int32.toInt (q3.1 2 31) = (t : Int) := ⟨(Int32.toInt (q3.1 2 31)).toNat, by rw [m3 2 31 (Or.inl rfl)]; omega⟩
      have ht5 : t ≤ 5 := by rw [m3 2 31 (Or.inl rfl)] at htt; omega
      have lL : q5.2.2.length < 1000 := by rw [x5, x4]; exact hL
      refine d2_lB (c_copy 468 q5 lL (m := m) (by rw [k5 25 6 (by decide)]; exact v2) (by obtain ⟨ts, ws, fa, fb, fc, -, -, h12, -⟩ := v4; exact h12)) (fun r6 q8 h => ?_)
      obtain ⟨hr, tt, N, C, R5, R6⟩ := h
      replace hr : r6 = Int32.ofNat (q5.2.2.length + 1) := hr
      replace N : NT q5 q8 tt := N
      obtain ⟨gd, gx⟩ := nt_g hr.symm N lL
      refine d2_rV (m_lays q3 (q3.1 2 31) t T htt ht5 y2 y1) (fun q6 h6 => ?_)
      obtain ⟨a6, b6, c6'⟩ := h6
      refine d2_lG (fun _ => d2_lG (fun _ => d2_lG (fun _ => d2_lL (fun q12 e12 => d2_lL (fun q13 e13 => d2_rL (fun q7 e7 => ?_))))))
      have n18 : Int32.toNatClampNeg (q5.1 1 8) = t := by
        have z : Int32.toInt (q5.1 1 8) = (t : Int) := by rw [hF5.1.2.2.2.2.2.1]; exact htt
        have n := cl_eq (i := q5.1 1 8) (by omega)
        omega
      rw [n18] at e12
      have k13 : ∀ j k : Nat, ¬ (j = 7 ∧ k = t) → ¬ (j = 1 ∧ k = 8) → q13.1 j k = q5.1 j k := fun j k j1 j2 => by rw [e13, cui_x j2, e12, cui_x j1, N.1]
      have x13 : q13.2.2 = q5.2.2 ++ [tt] := by rw [e13, e12]; exact N.2.2
      have l13 : q13.2.1 = q5.2.1 := by rw [e13, e12]; exact N.2.1
      have k7 : ∀ j k : Nat, ¬ j = 2 → q7.1 j k = q3.1 j k := fun j k hj => by rw [e7, dui_o hj]; exact a6 j k hj
      have r7 : ∀ i : Nat, i < 33 → ¬ i = 31 → q7.1 2 i = q3.1 2 i := fun i hi h31 => by rw [e7, dui_n h31, c6', if_neg (by omega), if_neg (by omega), if_neg (by omega)]
      have r31 : Int32.toInt (q7.1 2 31) = (t : Int) + 1 := by rw [e7, dui_e, c6', if_neg (by omega), if_neg (by omega), if_neg (by omega)]; exact ti_add htt d1 (by omega) (by omega)
      obtain ⟨s0, s1, s2, s3, s4, s5, s6, s7, s8, s9⟩ := hF5.1
      have e18 : q12.1 1 8 = q5.1 1 8 := by rw [e12, cui_o (by decide), N.1]
      have e77 : q13.1 7 t = r6 := by rw [e13, cui_o (by decide), e12, cui_e]
      have hS : SRl 1 2 q13 (q7.1 2) := by
        refine ⟨s0.q (fun k => k13 2 k (by omega) (by omega)) (fun k => k13 3 k (by omega) (by omega)) (fun k => k13 4 k (by omega) (by omega)) (fun k hk => r7 k (by omega) (by omega)), ?_, ?_, ?_, ?_, ?_, ?_, ?_, fun i hi => ⟨?_, ?_⟩, fun F hF hl => ?_⟩
        · rw [k13 1 1 (by omega) (by omega), r7 26 (by decide) (by decide)]; exact s1
        · rw [k13 1 2 (by omega) (by omega), r7 27 (by decide) (by decide)]; exact s2
        · rw [k13 1 3 (by omega) (by omega), r7 28 (by decide) (by decide)]; exact s3
        · rw [k13 1 6 (by omega) (by omega), r7 30 (by decide) (by decide)]; exact s4
        · rw [r31, e13, cui_e, e18, ti_add (s5.trans htt) d1 (by omega) (by omega)]
        · rw [k13 1 9 (by omega) (by omega), r7 32 (by decide) (by decide)]; exact s6
        · rw [r7 32 (by decide) (by decide)]; exact s7
        · rw [k13 (1 + 4) i (by omega) (by omega), r7 _ (by omega) (by omega)]; exact (s8 i hi).1
        · rw [k13 (1 + 5) i (by omega) (by omega), r7 _ (by omega) (by omega)]; exact (s8 i hi).2
        · rw [r31] at hl
          by_cases cF : F = t
          · subst cF
            have hd13 : dlg q13 r6 = true ∧ dTx q13 r6 = tt := by
              have z := dlg_eq (q := q8) (o := q13) gd (by rw [x13, N.2.2])
              exact ⟨z.1, z.2.trans gx⟩
            have nL : Int32.toNatClampNeg (q5.1 25 7) = Lc := by
              have z : Int32.toInt (q5.1 25 7) = (Lc : Int) := by rw [k5 25 7 (by decide)]; exact v3
              have n := cl_eq (i := q5.1 25 7) (by omega)
              omega
            show LRx q13 (q13.1 7 F) (q7.1 2) F
            rw [e77]
            refine ⟨hd13.1, T, m, Lc, cs, vs, y1, ?_, fun j hj => ⟨?_, ?_⟩, y4, ?_, ?_, ?_, ?_⟩
            · rw [e7, dui_n (by omega), c6', if_neg (by omega), if_neg (by omega), if_pos rfl]; exact y2
            · rw [e7, dui_n (by omega), c6', if_neg (by omega), if_pos (by omega), show 40 + (400 * F + j) - (40 + 400 * F) = j by omega]; exact (y3 j).1
            · rw [e7, dui_n (by omega), c6', if_pos (by omega), show 2840 + (400 * F + j) - (2840 + 400 * F) = j by omega]; exact (y3 j).2
            · rw [hd13.2, C.1, k5 25 6 (by decide)]; exact v2
            · rw [hd13.2, C.2.2.2, nL]; exact Nat.le_refl _
            · rw [hd13.2, C.2.2.2, nL]; exact v1
            · rw [hd13.2]
              have m12 : m ≤ 12 := by
                obtain ⟨ts, ws, fa, fb, fc, -, -, h12, -⟩ := v4
                exact h12
              refine v4.c (fun i hi => ⟨?_, ?_, ?_, ?_, ?_⟩) (fun i hi => ?_)
              · rw [R5 0 i (by decide) hi]; exact k5 26 i (by decide)
              · rw [R5 1 i (by decide) hi]; exact k5 27 i (by decide)
              · rw [R5 2 i (by decide) hi]; exact k5 28 i (by decide)
              · rw [R5 3 i (by decide) hi]; exact k5 29 i (by decide)
              · rw [R5 4 i (by decide) hi]; exact k5 30 i (by decide)
              · rw [R6 i (by rw [nL]; exact hi)]; exact k5 31 i (by decide)
          · have hl5 : (F : Int) < Int32.toInt (q3.1 2 31) := by omega
            have z := s9 F hF hl5
            have zd := Pfx.ap x13 _ z.1
            rw [k13 (1 + 6) F (by omega) (by omega)]
            refine z.s zd.1 zd.2 ?_ (fun j hj => ⟨?_, ?_⟩)
            · rw [e7, dui_n (by omega), c6', if_neg (by omega), if_neg (by omega), if_neg (by omega)]
            · rw [e7, dui_n (by omega), c6', if_neg (by omega), if_neg (by omega), if_neg (by omega)]
            · rw [e7, dui_n (by omega), c6', if_neg (by omega), if_neg (by omega), if_neg (by omega)]
      have hF13 : RFw q13 q7 := hF5.im hS (hF5.2.1.fr (k13 10 2 (by omega) (by omega)) (by rw [l13]) (fun k => k13 12 k (by omega) (by omega)) (k7 0 32 (by decide)) (fun k => k7 14 k (by decide)) (r7 29 (by decide) (by decide))) (fun j k hj => k13 j k (by omega) (by omega)) (Pfx.ap x13) (fun k => k7 3 k (by decide)) (fun k => k7 4 k (by decide))
      refine d2_lB (c_accept q13 ((q13.1 1 8) - 1 : Int32)) (fun r14 q16 y => d2_rB (m_good q7 ((q7.1 2 31) - 1 : Int32)) (fun r8 q10 z => d2_some ?_))
      have y2' : q16 = cui q13 0 18 0 := y.2
      have z2 : ∀ j k : Nat, ¬ (j = 0 ∧ k = 0) → q10.1 j k = q7.1 j k := z.2.1
      exact hF13.fr (fun j k hj => by rw [y2', cui_o (by omega)]) (by rw [y2']; rfl) (Pfx.eq (by rw [y2']; rfl)) (fun j k hj => z2 j k (by omega)) (z2 0 32 (by decide))
    · have er4 : Int32.toInt r4 = 0 := by
        rcases w2 with z | z
        · exact absurd (Int32.toInt_inj.mp ((by rw [b13]; exact z.2 : Int32.toInt (q5.1 0 13) = -1).trans dm.symm)) c1
        · exact z.1
      refine d2_rif (fun _ => ?_) (fun z => absurd (Int32.toInt_inj.mp (er4.trans d0.symm)) z)
      refine d2_lB (c_refuse q5 (-6)) (fun r17 q19 y => d2_rB (m_refuses q3 (-6)) (fun r11 q13 z => d2_some ?_))
      have y2' : ∀ j k : Nat, ¬ j = 48 → ¬ (j = 0 ∧ k = 18) → q19.1 j k = q5.1 j k := y.2.1
      have y3' : q19.2 = q5.2 := y.2.2
      have z2 : ∀ j k : Nat, ¬ j = 1 → ¬ (j = 0 ∧ k = 0) → q13.1 j k = q3.1 j k := z.2.1
      exact hF5.fr (fun j k hj => y2' j k (by omega) (by omega)) (by rw [y3']) (Pfx.eq (by rw [y3'])) (fun j k hj => z2 j k (by omega) (by omega)) (z2 0 32 (by decide) (by decide))
  · have c6 : ¬ Int32.toInt (q.1 1 8) < 6 := fun z => c (Int32.lt_iff_toInt_lt.mpr (by rw [k1 1 8 (by decide)]; omega))
    refine d2_rif (fun _ => d2_rL (fun q14 e14 => ?_)) (fun cm => absurd (Int32.toInt_inj.mp (show Int32.toInt (q2.1 2 31) = Int32.toInt 6 by omega)) cm)
    refine d2_lB (c_refuse q1 (-5)) (fun r20 q22 y => d2_rB (m_refuses q14 (-5)) (fun r15 q17 z => d2_some ?_))
    have y2' : ∀ j k : Nat, ¬ j = 48 → ¬ (j = 0 ∧ k = 18) → q22.1 j k = q1.1 j k := y.2.1
    have y3' : q22.2 = q1.2 := y.2.2
    have z2 : ∀ j k : Nat, ¬ j = 1 → ¬ (j = 0 ∧ k = 0) → q17.1 j k = q14.1 j k := z.2.1
    refine hF.fr (fun j k hj => ?_) (by show q22.2.1 11 = _; rw [y3', x1]) (Pfx.eq (by show q22.2.2 = _; rw [y3', x1])) (fun j k hj => ?_) ?_
    · show q22.1 j k = _
      rw [y2' j k (by omega) (by omega), k1 j k (by omega)]
    · show q17.1 j k = _
      rw [z2 j k (by omega) (by omega), e14, dui_o (by omega)]
    · show q17.1 0 32 = _
      rw [z2 0 32 (by decide) (by decide), e14, dui_n (by decide)]
