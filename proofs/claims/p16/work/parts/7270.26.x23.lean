/-! small calls: the whole state alike -/
theorem SRl.g {s t : Nat} {q o : dK} {R S : Nat → Int32} (h : SRl s t q R) (ht : TWR t o S) (e1 : Int32.toInt (o.1 s 1) = Int32.toInt (S 26)) (e2 : Int32.toInt (o.1 s 2) = Int32.toInt (S 27)) (e3 : Int32.toInt (o.1 s 3) = Int32.toInt (S 28)) (e6 : Int32.toInt (o.1 s 6) = Int32.toInt (S 30)) (e8 : o.1 s 8 = q.1 s 8) (e9 : Int32.toInt (o.1 s 9) = Int32.toInt (S 32)) (e32 : -1 ≤ Int32.toInt (S 32)) (es : ∀ i : Nat, i < 6 → Int32.toInt (o.1 (s + 4) i) = Int32.toInt (S (14 + 2 * i)) ∧ Int32.toInt (o.1 (s + 5) i) = Int32.toInt (S (15 + 2 * i))) (h6 : ∀ k : Nat, o.1 (s + 6) k = q.1 (s + 6) k) (hX : Pfx q o) (hR : ∀ k : Nat, k = 31 ∨ 33 ≤ k → S k = R k) : SRl s t o S := by
  obtain ⟨-, -, -, -, -, k5, -, -, -, k9⟩ := h
  refine ⟨ht, e1, e2, e3, e6, ?_, e9, e32, es, fun F hF hl => ?_⟩
  · rw [e8, hR 31 (Or.inl rfl)]; exact k5
  · rw [hR 31 (Or.inl rfl)] at hl
    have z := k9 F hF hl
    have zd := hX _ z.1
    rw [h6]
    exact z.s zd.1 zd.2 (hR _ (Or.inr (by omega))) (fun j _ => ⟨hR _ (Or.inr (by omega)), hR _ (Or.inr (by omega))⟩)
theorem HRl.z {o : dK} {o2 : dS} (h1 : o.1 10 2 = 0) (h2 : o2.1 0 32 = 0) : HRl o o2 := ⟨0, by decide, by rw [h1]; decide, by rw [h2]; decide, fun i hi => absurd hi (Nat.not_lt_zero i)⟩
theorem RFw.st {q o : dK} {q2 o2 : dS} (h : RFw q q2) (hs : SRl 1 2 o (o2.1 2)) (hh : HRl o o2) (kk : ∀ j k : Nat, (j = 9 ∨ (49 ≤ j ∧ j ≤ 62)) → o.1 j k = q.1 j k) (hX : o.2.2 = q.2.2) (mm : ∀ j k : Nat, (j = 3 ∨ j = 4) → o2.1 j k = q2.1 j k) : RFw o o2 :=
  h.im hs hh kk (Pfx.eq hX) (fun k => mm 3 k (Or.inl rfl)) (fun k => mm 4 k (Or.inr rfl))
/-- refused on both sides -/
theorem RFw.ref {q : dK} {q2 : dS} (h : RFw q q2) (p p2 : Int32) : d2 (dB (zX9_refuse_s0 q p) (fun r q => some (r, q))) (dB (zX10_refuses q2 p2) (fun r q => some (r, q))) (fun o o2 => RFw o.2 o2.2) := by
  refine d2_lB (c_refuse q p) (fun r17 q19 y => d2_rB (m_refuses q2 p2) (fun r11 q13 z => d2_some ?_))
  have y2' : ∀ j k : Nat, ¬ j = 48 → ¬ (j = 0 ∧ k = 18) → q19.1 j k = q.1 j k := y.2.1
  have y3' : q19.2 = q.2 := y.2.2
  have z2 : ∀ j k : Nat, ¬ j = 1 → ¬ (j = 0 ∧ k = 0) → q13.1 j k = q2.1 j k := z.2.1
  exact h.fr (fun j k hj => y2' j k (by omega) (by omega)) (by rw [y3']) (Pfx.eq (by rw [y3'])) (fun j k hj => z2 j k (by omega) (by omega)) (z2 0 32 (by decide) (by decide))
theorem RFw.acc {q : dK} {q2 : dS} (h : RFw q q2) (p p2 : Int32) : d2 (dB (zX9_accept_s0 q p) (fun r q => some (r, q))) (dB (zX10_good q2 p2) (fun r q => some (r, q))) (fun o o2 => RFw o.2 o2.2) := by
  refine d2_lB (c_accept q p) (fun r17 q19 y => d2_rB (m_good q2 p2) (fun r11 q13 z => d2_some ?_))
  have y2' : q19 = cui q 0 18 0 := y.2
  have z2 : ∀ j k : Nat, ¬ (j = 0 ∧ k = 0) → q13.1 j k = q2.1 j k := z.2.1
  exact h.fr (fun j k hj => by rw [y2', cui_o (by omega)]) (by rw [y2']; rfl) (Pfx.eq (by rw [y2']; rfl)) (fun j k hj => z2 j k (by omega)) (z2 0 32 (by decide))
theorem sf_forget {q : dK} {q2 : dS} (h : RFw q q2) : d2 (zX9_forget_s0 q) (zX10_forget q2) (fun o o2 => RFw o.2 o2.2) := by
  have hh := h
  obtain ⟨hs, hH, -, -, -⟩ := hh
  have hs0 := hs
  obtain ⟨s0, s1, s2, s3, s4, s5, s6, s7, s8, s9⟩ := hs
  unfold zX9_forget_s0 zX10_forget
  refine d2_lL (fun q1 e1 => d2_rL (fun o1 g1 => d2_some ?_))
  have k1 : ∀ j k : Nat, ¬ (j = 1 ∧ k = 6) → q1.1 j k = q.1 j k := fun j k hj => by rw [e1, cui_x hj]
  have m1 : ∀ k : Nat, ¬ k = 30 → o1.1 2 k = q2.1 2 k := fun k hk => by rw [g1, dui_n hk]
  have m2 : ∀ j k : Nat, ¬ j = 2 → o1.1 j k = q2.1 j k := fun j k hj => by rw [g1, dui_o hj]
  show RFw q1 o1
  refine h.st (hs0.g (s0.q (fun k => k1 2 k (by omega)) (fun k => k1 3 k (by omega)) (fun k => k1 4 k (by omega)) (fun k hk => m1 k (by omega))) ?_ ?_ ?_ ?_ (k1 1 8 (by omega)) ?_ ?_ (fun i hi => ⟨?_, ?_⟩) (fun k => k1 7 k (by omega)) (Pfx.eq (by rw [e1]; rfl)) (fun k hk => m1 k (by omega))) (hH.fr (k1 10 2 (by omega)) (by rw [e1]; rfl) (fun k => k1 12 k (by omega)) (m2 0 32 (by decide)) (fun k => m2 14 k (by decide)) (m1 29 (by decide))) (fun j k hj => k1 j k (by omega)) (by rw [e1]; rfl) (fun j k hj => m2 j k (by omega))
  · rw [k1 1 1 (by omega), m1 26 (by decide)]; exact s1
  · rw [k1 1 2 (by omega), m1 27 (by decide)]; exact s2
  · rw [k1 1 3 (by omega), m1 28 (by decide)]; exact s3
  · rw [e1, cui_e, g1, dui_e]
  · rw [k1 1 9 (by omega), m1 32 (by decide)]; exact s6
  · rw [m1 32 (by decide)]; exact s7
  · rw [k1 (1 + 4) i (by omega), m1 _ (by omega)]; exact (s8 i hi).1
  · rw [k1 (1 + 5) i (by omega), m1 _ (by omega)]; exact (s8 i hi).2
theorem c_rank (p : Int32) : dAll (zX9_isRank p) (fun r => (r = 1 ∧ 0 ≤ Int32.toInt p ∧ Int32.toInt p ≤ 5) ∨ (r = 0 ∧ ¬ (0 ≤ Int32.toInt p ∧ Int32.toInt p ≤ 5))) := by
  have d0 : Int32.toInt 0 = 0 := by decide
  have d6 : Int32.toInt 6 = 6 := by decide
  unfold zX9_isRank zX9_isRank_14 zX9_isRank_15
  exact dA_lt (fun c => dA_G (fun _ => dA_some (Or.inr ⟨rfl, by omega⟩))) (fun c => dA_le (fun c2 => dA_G (fun _ => dA_some (Or.inr ⟨rfl, by omega⟩))) (fun c2 => dA_G (fun _ => dA_some (Or.inl ⟨rfl, by omega, by omega⟩))))
theorem m_rank (p : Int32) : dAll (zX10_isRank p) (fun r => (r = 1 ∧ 0 ≤ Int32.toInt p ∧ Int32.toInt p ≤ 5) ∨ (r = 0 ∧ ¬ (0 ≤ Int32.toInt p ∧ Int32.toInt p ≤ 5))) := by
  unfold zX10_isRank
  exact dA_V (m_lies p 0 5 (by decide) (by decide)) (fun r z => dA_G (fun _ => dA_some z))
theorem sf_seen {q : dK} {q2 : dS} (hT : TC q) (h : RFw q q2) (p1 p2 : Int32) : d2 (zX9_seen_s0 q p1 p2) (zX10_seen q2 p1 p2) (fun o o2 => RFw o.2 o2.2) := by
  have d0 : Int32.toInt 0 = 0 := by decide
  have d1 : Int32.toInt 1 = 1 := by decide
  have d2' : Int32.toInt 2 = 2 := by decide
  have d6 : Int32.toInt 6 = 6 := by decide
  have d14 : Int32.toInt 14 = 14 := by decide
  have f6 := rg_1_6 hT
  have hh := h
  obtain ⟨hs, hH, -, -, -⟩ := hh
  have hs0 := hs
  obtain ⟨s0, s1, s2, s3, s4, s5, s6, s7, s8, s9⟩ := hs
  unfold zX9_seen_s0 zX9_seen_s0_17 zX10_seen zX10_seen_14
  refine d2_rV (m_rank p1) (fun r1 z1 => ?_)
  have hbad : ¬ (0 ≤ Int32.toInt p1 ∧ Int32.toInt p1 ≤ 5) → ∀ y : Option (Int32 × dS), d2 (dB (zX9_refuse_s0 q (-1)) (fun r1 q3 => some (r1, q3))) (if r1 = 0 then dB (zX10_refuses q2 (-1)) (fun r1 q3 => some (r1, q3)) else y) (fun o o2 => RFw o.2 o2.2) := by
    intro hn y
    rcases z1 with z1 | z1
    · exact absurd z1.2 hn
    · rw [if_pos z1.1]; exact h.ref (-1) (-1)
  refine d2_lif (fun c => hbad (by have := Int32.lt_iff_toInt_lt.mp c; omega) _) (fun c => d2_lif (fun c2 => hbad (by have := Int32.le_iff_toInt_le.mp c2; omega) _) (fun c2 => ?_))
  have c3 : ¬ Int32.toInt p1 < Int32.toInt 0 := fun w => c (Int32.lt_iff_toInt_lt.mpr w)
  have c4 : ¬ Int32.toInt 6 ≤ Int32.toInt p1 := fun w => c2 (Int32.le_iff_toInt_le.mpr w)
  have r1' : ¬ r1 = 0 := by
    rcases z1 with z1 | z1
    · rw [z1.1]; decide
    · exact absurd ⟨by omega, by omega⟩ z1.2
  rw [if_neg r1']
  refine d2_lV (c_rank p2) (fun r2 z2 => d2_rV (m_rank p2) (fun r3 z3 => ?_))
  by_cases hp : 0 ≤ Int32.toInt p2 ∧ Int32.toInt p2 ≤ 5
  · have e2 : r2 = 1 := by
      rcases z2 with z | z
      · exact z.1
      · exact absurd hp z.2
    have e3 : r3 = 1 := by
      rcases z3 with z | z
      · exact z.1
      · exact absurd hp z.2
    rw [if_neg (show ¬ r2 = 0 by rw [e2]; decide), if_neg (show ¬ r3 = 0 by rw [e3]; decide)]
    refine d2_lif (fun c5 => ?_) (fun c5 => ?_)
    · have c6 := Int32.lt_iff_toInt_lt.mp c5
      refine d2_rif (fun w => by rw [w] at s4; omega) (fun _ => ?_)
      obtain ⟨n, hn⟩ : ∃ n : Nat, Int32.toInt (q.1 1 6) = (n : Int) := ⟨(Int32.toInt (q.1 1 6)).toNat, by omega⟩
      have hm : Int32.toInt (q2.1 2 30) = (n : Int) := s4.symm.trans hn
      have n1 : Int32.toNatClampNeg (q.1 1 6) = n := by have z := cl_eq (i := q.1 1 6) (by omega); omega
      have t2 : Int32.toInt (2 * (q2.1 2 30) : Int32) = 2 * (n : Int) := ti_mul d2' hm (by omega) (by omega)
      have t3 : Int32.toInt (14 + (2 * (q2.1 2 30) : Int32) : Int32) = 14 + 2 * (n : Int) := ti_add d14 t2 (by omega) (by omega)
      have t4 : Int32.toInt ((14 + (2 * (q2.1 2 30) : Int32) : Int32) + 1 : Int32) = 14 + 2 * (n : Int) + 1 := ti_add t3 d1 (by omega) (by omega)
      have n3 : Int32.toNatClampNeg (14 + (2 * (q2.1 2 30) : Int32) : Int32) = 14 + 2 * n := by have z := cl_eq (i := (14 + (2 * (q2.1 2 30) : Int32) : Int32)) (by omega); omega
      have n4 : Int32.toNatClampNeg ((14 + (2 * (q2.1 2 30) : Int32) : Int32) + 1 : Int32) = 15 + 2 * n := by have z := cl_eq (i := ((14 + (2 * (q2.1 2 30) : Int32) : Int32) + 1 : Int32)) (by omega); omega
      rw [n1, n3, n4]
      refine d2_lG (fun _ => d2_lL (fun q4 e4 => ?_))
      have e46 : q4.1 1 6 = q.1 1 6 := by rw [e4, cui_o (by decide)]
      rw [e46, n1]
      refine d2_lG (fun _ => d2_lL (fun q6 e6 => d2_lL (fun q7 e7 => ?_)))
      refine d2_rG (fun _ => d2_rL (fun o6 g6 => d2_rG (fun _ => d2_rL (fun o8 g8 => d2_rL (fun o9 g9 => ?_)))))
      have k1 : ∀ j k : Nat, ¬ (j = 5 ∧ k = n) → ¬ (j = 6 ∧ k = n) → ¬ (j = 1 ∧ k = 6) → q7.1 j k = q.1 j k := fun j k j1 j2 j3 => by rw [e7, cui_x j3, e6, cui_x j2, e4, cui_x j1]
      have m1 : ∀ k : Nat, ¬ k = 14 + 2 * n → ¬ k = 15 + 2 * n → ¬ k = 30 → o9.1 2 k = q2.1 2 k := fun k k1 k2 k3 => by rw [g9, dui_n k3, g8, dui_n k2, g6, dui_n k1]
      have m2 : ∀ j k : Nat, ¬ j = 2 → o9.1 j k = q2.1 j k := fun j k hj => by rw [g9, dui_o hj, g8, dui_o hj, g6, dui_o hj]
      have x7 : q7.2 = q.2 := by rw [e7, e6, e4]; rfl
      have q66 : q6.1 1 6 = q.1 1 6 := by rw [e6, cui_o (by decide)]; exact e46
      have o83 : o8.1 2 30 = q2.1 2 30 := by rw [g8, dui_n (by omega), g6, dui_n (by omega)]
      refine RFw.acc (h.st (hs0.g (s0.q (fun k => k1 2 k (by omega) (by omega) (by omega)) (fun k => k1 3 k (by omega) (by omega) (by omega)) (fun k => k1 4 k (by omega) (by omega) (by omega)) (fun k hk => ?_)) ?_ ?_ ?_ ?_ (k1 1 8 (by omega) (by omega) (by omega)) ?_ ?_ (fun i hi => ⟨?_, ?_⟩) (fun k => k1 7 k (by omega) (by omega) (by omega)) (Pfx.eq (by rw [x7])) (fun k hk => m1 k (by omega) (by omega) (by omega))) (hH.fr (k1 10 2 (by omega) (by omega) (by omega)) (by rw [x7]) (fun k => k1 12 k (by omega) (by omega) (by omega)) (m2 0 32 (by decide)) (fun k => m2 14 k (by decide)) (m1 29 (by omega) (by omega) (by decide))) (fun j k hj => k1 j k (by omega) (by omega) (by omega)) (by rw [x7]) (fun j k hj => m2 j k (by omega))) _ _
      · exact m1 k (by omega) (by omega) (by omega)
      · rw [k1 1 1 (by omega) (by omega) (by omega), m1 26 (by omega) (by omega) (by decide)]; exact s1
      · rw [k1 1 2 (by omega) (by omega) (by omega), m1 27 (by omega) (by omega) (by decide)]; exact s2
      · rw [k1 1 3 (by omega) (by omega) (by omega), m1 28 (by omega) (by omega) (by decide)]; exact s3
      · rw [e7, cui_e, q66, g9, dui_e, o83, ti_add hn d1 (by omega) (by omega), ti_add hm d1 (by omega) (by omega)]
      · rw [k1 1 9 (by omega) (by omega) (by omega), m1 32 (by omega) (by omega) (by decide)]; exact s6
      · rw [m1 32 (by omega) (by omega) (by decide)]; exact s7
      · by_cases ci : i = n
        · subst ci
          have a1 : q7.1 (1 + 4) i = p1 := by rw [e7, cui_o (by decide), e6, cui_o (by decide), e4, cui_e]
          have a2 : o9.1 2 (14 + 2 * i) = p1 := by rw [g9, dui_n (by omega), g8, dui_n (by omega), g6, dui_e]
          rw [a1, a2]
        · rw [k1 (1 + 4) i (by omega) (by omega) (by omega), m1 _ (by omega) (by omega) (by omega)]; exact (s8 i hi).1
      · by_cases ci : i = n
        · subst ci
          have a1 : q7.1 (1 + 5) i = p2 := by rw [e7, cui_o (by decide), e6, cui_e]
          have a2 : o9.1 2 (15 + 2 * i) = p2 := by rw [g9, dui_n (by omega), g8, dui_e]
          rw [a1, a2]
        · rw [k1 (1 + 5) i (by omega) (by omega) (by omega), m1 _ (by omega) (by omega) (by omega)]; exact (s8 i hi).2
    · have c6 : ¬ Int32.toInt (q.1 1 6) < Int32.toInt 6 := fun w => c5 (Int32.lt_iff_toInt_lt.mpr w)
      refine d2_rif (fun _ => h.ref (-5) (-5)) (fun w => absurd (Int32.toInt_inj.mp (show Int32.toInt (q2.1 2 30) = Int32.toInt 6 by omega)) w)
  · have e2 : r2 = 0 := by
      rcases z2 with z | z
      · exact absurd z.2 hp
      · exact z.1
    have e3 : r3 = 0 := by
      rcases z3 with z | z
      · exact absurd z.2 hp
      · exact z.1
    rw [if_pos e2, if_pos e3]
    exact h.ref (-1) (-1)
theorem sf_force {q : dK} {q2 : dS} (hT2 : TS q2) (h : RFw q q2) (p : Int32) : d2 (zX9_force_s0 q p) (zX10_force q2 p) (fun o o2 => RFw o.2 o2.2) := by
  have d0 : Int32.toInt 0 = 0 := by decide
  have d1 : Int32.toInt 1 = 1 := by decide
  have dm : Int32.toInt (-1) = -1 := by decide
  have h31 : 0 ≤ Int32.toInt (q2.1 2 31) ∧ Int32.toInt (q2.1 2 31) ≤ 6 := hT2.1 2 31
  have hh := h
  obtain ⟨hs, hH, -, -, -⟩ := hh
  have hs0 := hs
  obtain ⟨s0, s1, s2, s3, s4, s5, s6, s7, s8, s9⟩ := hs
  have ts : Int32.toInt ((q2.1 2 31) - 1 : Int32) = Int32.toInt (q2.1 2 31) - 1 := ti_sub rfl d1 (by omega) (by omega)
  have hm : dAll (zX10_isLaw q2 p) (fun o => o.2 = q2 ∧ ((o.1 = 1 ∧ -1 ≤ Int32.toInt p ∧ Int32.toInt p < Int32.toInt (q2.1 2 31)) ∨ (o.1 = 0 ∧ ¬ (-1 ≤ Int32.toInt p ∧ Int32.toInt p < Int32.toInt (q2.1 2 31))))) := by
    unfold zX10_isLaw
    refine dA_V (m_lies p (-1) ((q2.1 2 31) - 1) dm ts) (fun r z => dA_G (fun _ => dA_some ⟨rfl, ?_⟩))
    rcases z with z | z
    · exact Or.inl ⟨z.1, by omega, by omega⟩
    · exact Or.inr ⟨z.1, by omega⟩
  have hl : dAll (zX6_isLaw_s1 q p) (fun o => o.2 = q ∧ ((o.1 = 1 ∧ 0 ≤ Int32.toInt p ∧ Int32.toInt p < Int32.toInt (q.1 1 8)) ∨ (o.1 = 0 ∧ ¬ (0 ≤ Int32.toInt p ∧ Int32.toInt p < Int32.toInt (q.1 1 8))))) := by
    unfold zX6_isLaw_s1 zX6_isLaw_s1_16 zX6_isLaw_s1_17
    exact dA_lt (fun c => dA_G (fun _ => dA_some ⟨rfl, Or.inr ⟨rfl, by omega⟩⟩)) (fun c => dA_le (fun c2 => dA_G (fun _ => dA_some ⟨rfl, Or.inr ⟨rfl, by omega⟩⟩)) (fun c2 => dA_G (fun _ => dA_some ⟨rfl, Or.inl ⟨rfl, by omega, by omega⟩⟩)))
  have hset : -1 ≤ Int32.toInt p → d2 (zX9_force_s0_23 q p) (dL (dui q2 2 32 p) (fun q4 => dB (zX10_good q4 (q2.1 2 32)) (fun r5 q7 => some (r5, q7)))) (fun o o2 => RFw o.2 o2.2) := by
    intro hp
    unfold zX9_force_s0_23
    refine d2_lL (fun q1 e1 => d2_rL (fun o1 g1 => ?_))
    have k1 : ∀ j k : Nat, ¬ (j = 1 ∧ k = 9) → q1.1 j k = q.1 j k := fun j k hj => by rw [e1, cui_x hj]
    have m1 : ∀ k : Nat, ¬ k = 32 → o1.1 2 k = q2.1 2 k := fun k hk => by rw [g1, dui_n hk]
    have m2 : ∀ j k : Nat, ¬ j = 2 → o1.1 j k = q2.1 j k := fun j k hj => by rw [g1, dui_o hj]
    have e19 : q1.1 1 9 = p := by rw [e1, cui_e]
    have g32 : o1.1 2 32 = p := by rw [g1, dui_e]
    refine RFw.acc (h.st (hs0.g (s0.q (fun k => k1 2 k (by omega)) (fun k => k1 3 k (by omega)) (fun k => k1 4 k (by omega)) (fun k hk => m1 k (by omega))) ?_ ?_ ?_ ?_ (k1 1 8 (by omega)) ?_ ?_ (fun i hi => ⟨?_, ?_⟩) (fun k => k1 7 k (by omega)) (Pfx.eq (by rw [e1]; rfl)) (fun k hk => m1 k (by omega))) (hH.fr (k1 10 2 (by omega)) (by rw [e1]; rfl) (fun k => k1 12 k (by omega)) (m2 0 32 (by decide)) (fun k => m2 14 k (by decide)) (m1 29 (by decide))) (fun j k hj => k1 j k (by omega)) (by rw [e1]; rfl) (fun j k hj => m2 j k (by omega))) _ _
    · rw [k1 1 1 (by omega), m1 26 (by decide)]; exact s1
    · rw [k1 1 2 (by omega), m1 27 (by decide)]; exact s2
    · rw [k1 1 3 (by omega), m1 28 (by decide)]; exact s3
    · rw [k1 1 6 (by omega), m1 30 (by decide)]; exact s4
    · rw [e19, g32]
    · rw [g32]; exact hp
    · rw [k1 (1 + 4) i (by omega), m1 _ (by omega)]; exact (s8 i hi).1
    · rw [k1 (1 + 5) i (by omega), m1 _ (by omega)]; exact (s8 i hi).2
  unfold zX9_force_s0 zX10_force
  refine d2_rB hm (fun r3 q5 w => ?_)
  obtain ⟨w1, w2⟩ := w
  replace w1 : q5 = q2 := w1
  replace w2 : (r3 = 1 ∧ -1 ≤ Int32.toInt p ∧ Int32.toInt p < Int32.toInt (q2.1 2 31)) ∨ (r3 = 0 ∧ ¬ (-1 ≤ Int32.toInt p ∧ Int32.toInt p < Int32.toInt (q2.1 2 31))) := w2
  subst w1
  refine d2_lif (fun c => ?_) (fun c => ?_)
  · have hp : Int32.toInt p = -1 := by rw [c]; exact dm
    have e3 : r3 = 1 := by
      rcases w2 with z | z
      · exact z.1
      · exact absurd ⟨by omega, by omega⟩ z.2
    rw [if_neg (by rw [e3]; decide)]
    exact hset (by omega)
  · have hp : ¬ Int32.toInt p = -1 := fun z => c (Int32.toInt_inj.mp (z.trans dm.symm))
    refine d2_lB hl (fun r1 q3 y => ?_)
    obtain ⟨y1, y2⟩ := y
    replace y1 : q3 = q := y1
    replace y2 : (r1 = 1 ∧ 0 ≤ Int32.toInt p ∧ Int32.toInt p < Int32.toInt (q.1 1 8)) ∨ (r1 = 0 ∧ ¬ (0 ≤ Int32.toInt p ∧ Int32.toInt p < Int32.toInt (q.1 1 8))) := y2
    subst y1
    rcases y2 with y2 | y2
    · have e3 : r3 = 1 := by
        rcases w2 with z | z
        · exact z.1
        · exact absurd ⟨by omega, by omega⟩ z.2
      rw [if_neg (by rw [y2.1]; decide), if_neg (by rw [e3]; decide)]
      exact hset (by omega)
    · have e3 : r3 = 0 := by
        rcases w2 with z | z
        · exact absurd ⟨by omega, by omega⟩ y2.2
        · exact z.1
      rw [if_pos y2.1, if_pos e3]
      exact h.ref (-2) (-2)
/-- the history emptied, and answered -/
theorem m_settled (q : dS) (p : Int32) : dAll (zX10_settled q p) (fun o => o.1 = p ∧ o.2.1 0 32 = 0 ∧ (∀ j k : Nat, ¬ (j = 0 ∧ k = 0) → ¬ (j = 0 ∧ k = 32) → o.2.1 j k = q.1 j k) ∧ o.2.2 = q.2) := by
  unfold zX10_settled
  refine dA_L (fun q1 e1 => dA_B (m_good q1 p) (fun r q3 z => dA_some ⟨z.1, ?_, fun j k h1 h2 => ?_, ?_⟩))
  · have z2 : ∀ j k : Nat, ¬ (j = 0 ∧ k = 0) → q3.1 j k = q1.1 j k := z.2.1
    show q3.1 0 32 = 0
    rw [z2 0 32 (by decide), e1, dui_e]
  · have z2 : ∀ j k : Nat, ¬ (j = 0 ∧ k = 0) → q3.1 j k = q1.1 j k := z.2.1
    show q3.1 j k = _
    rw [z2 j k h1, e1]
    by_cases c : j = 0
    · rw [c, dui_n (fun y => h2 ⟨c, y⟩)]
    · rw [dui_o c]
  · have z3 : q3.2 = q1.2 := z.2.2
    show q3.2 = _
    rw [z3, e1]; rfl
theorem RFw.set {q o : dK} {q2 o2 : dS} (h : RFw q q2) (hs : SRl 1 2 o (o2.1 2)) (kk : ∀ j k : Nat, (j = 9 ∨ (49 ≤ j ∧ j ≤ 62)) → o.1 j k = q.1 j k) (hX : o.2.2 = q.2.2) (mm : ∀ j k : Nat, (j = 3 ∨ j = 4) → o2.1 j k = q2.1 j k) (p p2 : Int32) : d2 (dV (zX0_clear_s10 o) (fun q11 => dB (zX9_accept_s0 q11 p) (fun r12 q14 => some (r12, q14)))) (dB (zX10_settled o2 p2) (fun r11 q13 => some (r11, q13))) (fun o o2 => RFw o.2 o2.2) := by
  unfold zX0_clear_s10
  refine d2_lV (R := fun u => u = cui o 10 2 0) (dA_L (fun q1 e1 => dA_some e1)) (fun u eu => d2_lB (c_accept u p) (fun r1 q1 y => d2_rB (m_settled o2 p2) (fun r2 q3 z => d2_some ?_)))
  have y2 : q1 = cui u 0 18 0 := y.2
  have z1 : q3.1 0 32 = 0 := z.2.1
  have z2 : ∀ j k : Nat, ¬ (j = 0 ∧ k = 0) → ¬ (j = 0 ∧ k = 32) → q3.1 j k = o2.1 j k := z.2.2.1
  have k1 : ∀ j k : Nat, ¬ j = 0 → ¬ j = 10 → q1.1 j k = o.1 j k := fun j k j0 j10 => by rw [y2, cui_o j0, eu, cui_o j10]
  have e10 : q1.1 10 2 = 0 := by rw [y2, cui_o (by decide), eu, cui_e]
  have x1 : q1.2 = o.2 := by rw [y2, eu]; rfl
  exact h.st (hs.fr (fun j k hj => k1 j k (by omega) (by omega)) (Pfx.eq (by rw [x1])) (fun k => z2 2 k (by omega) (by omega))) (HRl.z e10 z1) (fun j k hj => (k1 j k (by omega) (by omega)).trans (kk j k hj)) ((congrArg Prod.snd x1).trans hX) (fun j k hj => (z2 j k (by omega) (by omega)).trans (mm j k hj))
