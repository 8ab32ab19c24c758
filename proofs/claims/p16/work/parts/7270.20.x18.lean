/-! a law kept: both sides -/
/-- the reference's tokens stay as they were split -/
theorem m_reads {B : Nat → Int} (o : Bool) (q : dS) (n0 : Nat) (hT : TS q) (h10 : (q.1 0 10).toInt = bI o) (h8 : (q.1 0 8).toInt = loW o) (h9 : (q.1 0 9).toInt = hiW o) (hb : Int32.toInt (q.1 0 13) = (n0 : Int)) (h400 : n0 ≤ 400) (hB : ∀ i : Nat, i < n0 → tpR (B i) (Int32.toInt (q.1 7 i))) : dAll (zX10_reads q) (fun r => ∃ (T : Nat) (ps es : Nat → Nat), TKS B n0 T ps es (fun j => Int32.toInt (r.2.1 9 j)) (fun j => Int32.toInt (r.2.1 10 j)) ∧ Int32.toInt (r.2.1 0 18) = (T : Int)) := by
  unfold zX10_reads
  have f13 : 0 ≤ Int32.toInt (q.1 0 13) ∧ Int32.toInt (q.1 0 13) ≤ 400 := hT.1 0 13
  have d0 : Int32.toInt 0 = 0 := by decide
  refine dA_V (dA_and (m_splits (B := B) q hT (q.1 0 13) n0 hb h400 hB) (dA_of (ok_splits q (q.1 0 13) hT f13.1 f13.2))) (fun q3 w => ?_)
  obtain ⟨⟨⟨T, ps, es, hX⟩, -⟩, hT3, hF3, -, -, -⟩ := w
  obtain ⟨x1, x2, x3, x4, x5, x6, x7⟩ := hX
  refine dA_L (fun q4 e4 => dA_L (fun q5 e5 => dA_L (fun q6 e6 => dA_L (fun q7 e7 => ?_))))
  have hK : TKS B n0 T ps es (fun j => Int32.toInt (q3.1 9 j)) (fun j => Int32.toInt (q3.1 10 j)) := by
    refine ⟨h400, x7, fun i hi => ?_, fun j hj => ⟨(x1 j hj).1, (x1 j hj).2.2⟩, x2, x4, x5⟩
    have z := hB i hi
    unfold tpR at z
    omega
  have hT4 : TS q4 := by rw [e4]; exact ts_f hT3 (by decide) (by decide)
  have hT5 : TS q5 := by rw [e5]; exact ts_f hT4 (by decide) (by decide)
  have hT6 : TS q6 := by rw [e6]; exact ts_f hT5 (by decide) (by decide)
  have hT7 : TS q7 := by rw [e7]; exact ts_f hT6 (by decide) (by decide)
  have fld : ∀ k : Nat, ¬ k = 13 → ¬ k = 19 → ¬ k = 20 → ¬ k = 21 → q7.1 0 k = q3.1 0 k := by
    intro k k1 k2 k3 k4
    rw [e7, dui_n k4, e6, dui_n k3, e5, dui_n k2, e4, dui_n k1]
  have row : ∀ j : Nat, ¬ j = 0 → q7.1 j = q3.1 j := by
    intro j hj
    rw [e7, dui_o hj, e6, dui_o hj, e5, dui_o hj, e4, dui_o hj]
  have hPQ : PQ o T (q7.1 9) (q7.1 10) 0 q7 := by
    refine ⟨hT7, rfl, rfl, ?_, x7, ?_, ?_, Nat.zero_le _, ?_, ?_, ?_⟩
    · rw [fld 18 (by decide) (by decide) (by decide) (by decide)]; exact x6
    · rw [row 9 (by decide)]; exact Int32.toInt_inj.mp (x4.trans d0.symm)
    · rw [e7, dui_n (by decide), e6, dui_n (by decide), e5, dui_e]; exact d0
    · rw [fld 10 (by decide) (by decide) (by decide) (by decide), hF3.2 10 (by decide)]; exact h10
    · rw [fld 8 (by decide) (by decide) (by decide) (by decide), hF3.2 8 (by decide)]; exact h8
    · rw [fld 9 (by decide) (by decide) (by decide) (by decide), hF3.2 9 (by decide)]; exact h9
  have hfin : ∀ Q : dS, Q.1 9 = q7.1 9 → Q.1 10 = q7.1 10 → Int32.toInt (Q.1 0 18) = (T : Int) → ∃ (T : Nat) (ps es : Nat → Nat), TKS B n0 T ps es (fun j => Int32.toInt (Q.1 9 j)) (fun j => Int32.toInt (Q.1 10 j)) ∧ Int32.toInt (Q.1 0 18) = (T : Int) := by
    intro Q r1 r2 r3
    refine ⟨T, ps, es, ?_, r3⟩
    rw [r1, r2, row 9 (by decide), row 10 (by decide)]
    exact hK
  have h95 : ∀ (m : Nat) (q1 : dS), PQ o T (q7.1 9) (q7.1 10) m q1 → dAll (zX10_reads_95 q1) (fun r => ∃ (T : Nat) (ps es : Nat → Nat), TKS B n0 T ps es (fun j => Int32.toInt (r.2.1 9 j)) (fun j => Int32.toInt (r.2.1 10 j)) ∧ Int32.toInt (r.2.1 0 18) = (T : Int)) := by
    intro m q1 h1
    unfold zX10_reads_95
    refine dA_L (fun q2 e2 => dA_B (dA_of (pr_fine q2)) (fun r q4' hr => dA_G (fun _ => dA_some ?_)))
    have e3 : q4' = q2 := hr.1
    show ∃ (T : Nat) (ps es : Nat → Nat), TKS B n0 T ps es (fun j => Int32.toInt (q4'.1 9 j)) (fun j => Int32.toInt (q4'.1 10 j)) ∧ Int32.toInt (q4'.1 0 18) = (T : Int)
    refine hfin q4' ?_ ?_ ?_
    · rw [e3, e2, dui_o (by decide)]; exact h1.2.1
    · rw [e3, e2, dui_o (by decide)]; exact h1.2.2.1
    · rw [e3, e2, dui_n (by decide)]; exact h1.2.2.2.1
  refine dA_V (dA_of (pr_one hPQ)) (fun q10 h10' => ?_)
  obtain ⟨m0, -, h10', -, -⟩ := h10'
  unfold zX10_reads_34
  refine dA_fix (fun (a : dS × Int32) => ∃ m : Nat, PQ o T (q7.1 9) (q7.1 10) m a.1) ?_ dF _ ⟨m0, h10'⟩
  intro k hk a ha
  obtain ⟨qa, xa⟩ := a
  obtain ⟨m, h⟩ := ha
  replace h : PQ o T (q7.1 9) (q7.1 10) m qa := h
  show dAll (zX10_reads_34b (fun q x1 => k (q, x1)) qa xa) _
  unfold zX10_reads_34b
  have h56 : ∀ (m : Nat) (q6 : dS), PQ o T (q7.1 9) (q7.1 10) m q6 → dAll (zX10_reads_56 (fun q x1 => k (q, x1)) q6 xa) (fun r => ∃ (T : Nat) (ps es : Nat → Nat), TKS B n0 T ps es (fun j => Int32.toInt (r.2.1 9 j)) (fun j => Int32.toInt (r.2.1 10 j)) ∧ Int32.toInt (r.2.1 0 18) = (T : Int)) := by
    intro m q6 h6
    unfold zX10_reads_56 zX10_reads_67
    refine dA_B (dA_of (pr_fine q6)) (fun r q8 hr => ?_)
    have e3 : q8 = q6 := hr.1
    subst e3
    refine dA_if (fun _ => hk (q8, xa + 1) ⟨m, h6⟩) (fun _ => dA_V (dA_of (pr_one h6)) (fun q9 h9' => ?_))
    obtain ⟨m', -, h9', -, -⟩ := h9'
    exact hk (q9, xa + 1) ⟨m', h9'⟩
  refine dA_V (dA_of (sg 59 (by decide) (by decide))) (fun r1 hr1 => ?_)
  have hr1 : r1.toInt = 159 := hr1
  refine dA_B (dA_of (pr_takes r1 (by omega) h)) (fun r3 q5' hr => ?_)
  rcases hr with ⟨e, z1, z2, z3, z4, z5⟩ | ⟨e, e5', y1⟩
  · have e : r3 = 1 := e
    subst e
    rw [if_neg (by decide)]
    exact dA_if (fun _ => dA_V (dA_of (pr_faults z4)) (fun q14 h14 => h56 _ q14 h14.1)) (fun _ => h56 _ q5' z4)
  · have e : r3 = 0 := e
    have e5' : q5' = qa := e5'
    subst e e5'
    rw [if_pos rfl]
    refine dA_B (dA_of (pr_fine q5')) (fun r q8 hr => ?_)
    have e3 : q8 = q5' := hr.1
    subst e3
    exact dA_if (fun _ => h95 m q8 h) (fun _ => dA_if (fun _ => h95 m q8 h) (fun _ => dA_V (dA_of (pr_faults h)) (fun q11 h11 => h95 m q11 h11.1)))
theorem m_readsAs {B : Nat → Int} (q : dS) (p : Int32) (n0 : Nat) (hT : TS q) (hp : p = 0 ∨ p = 1) (hb : Int32.toInt (q.1 0 13) = (n0 : Int)) (h400 : n0 ≤ 400) (hB : ∀ i : Nat, i < n0 → tpR (B i) (Int32.toInt (q.1 7 i))) : dAll (zX10_readsAs q p) (fun r => ∃ (T : Nat) (ps es : Nat → Nat), TKS B n0 T ps es (fun j => Int32.toInt (r.2.1 9 j)) (fun j => Int32.toInt (r.2.1 10 j)) ∧ Int32.toInt (r.2.1 0 18) = (T : Int)) := by
  have hid : ∀ (b : dS) (o : Bool), TS b → (b.1 0 10).toInt = bI o → (b.1 0 8).toInt = loW o → (b.1 0 9).toInt = hiW o → Int32.toInt (b.1 0 13) = (n0 : Int) → (∀ i : Nat, b.1 7 i = q.1 7 i) → dAll (dB (zX10_reads b) (fun r2 q4 => dG (dbl r2) (some (r2, q4)))) (fun r => ∃ (T : Nat) (ps es : Nat → Nat), TKS B n0 T ps es (fun j => Int32.toInt (r.2.1 9 j)) (fun j => Int32.toInt (r.2.1 10 j)) ∧ Int32.toInt (r.2.1 0 18) = (T : Int)) := by
    intro b o t1 t2 t3 t4 t5 t6
    exact dA_B (m_reads o b n0 t1 t2 t3 t4 t5 h400 (fun i hi => by rw [t6]; exact hB i hi)) (fun r q4 w => dA_G (fun _ => dA_some w))
  unfold zX10_readsAs
  refine dA_G (fun _ => dA_L (fun b2 g2 => ?_))
  have tb2 : TS b2 := by rw [g2]; exact ts_f hT (by rcases hp with z | z <;> rw [z] <;> decide) (by rcases hp with z | z <;> rw [z] <;> decide)
  unfold zX10_readsAs_17 zX10_readsAs_32
  rcases hp with z | z
  · subst z
    rw [if_pos rfl]
    refine dA_L (fun b3 g3 => ?_)
    rw [if_pos rfl]
    refine dA_L (fun b4 g4 => hid b4 false ?_ ?_ ?_ ?_ ?_ (fun i => ?_))
    · rw [g4]; exact ts_f (by rw [g3]; exact ts_f tb2 (by decide) (by decide)) (by decide) (by decide)
    · rw [g4, dui_n (by decide), g3, dui_n (by decide), g2, dui_e]; decide
    · rw [g4, dui_n (by decide), g3, dui_e]; decide
    · rw [g4, dui_e]; decide
    · rw [g4, dui_n (by decide), g3, dui_n (by decide), g2, dui_n (by decide)]; exact hb
    · rw [g4, dui_o (by decide), g3, dui_o (by decide), g2, dui_o (by decide)]
  · subst z
    rw [if_neg (by decide)]
    refine dA_L (fun b3 g3 => ?_)
    rw [if_neg (by decide)]
    refine dA_L (fun b4 g4 => hid b4 true ?_ ?_ ?_ ?_ ?_ (fun i => ?_))
    · rw [g4]; exact ts_f (by rw [g3]; exact ts_f tb2 (by decide) (by decide)) (by decide) (by decide)
    · rw [g4, dui_n (by decide), g3, dui_n (by decide), g2, dui_e]; decide
    · rw [g4, dui_n (by decide), g3, dui_e]; decide
    · rw [g4, dui_e]; decide
    · rw [g4, dui_n (by decide), g3, dui_n (by decide), g2, dui_n (by decide)]; exact hb
    · rw [g4, dui_o (by decide), g3, dui_o (by decide), g2, dui_o (by decide)]
/-! the draft's copy, word by word -/
def upT (t : dT) (j i : Nat) (v : Int32) : dT := (t.1, t.2.1, t.2.2.1, t.2.2.2.1, fun a => if a = j then upd (t.2.2.2.2 j) i v else t.2.2.2.2 a)
theorem upT_r (t : dT) (j i a b : Nat) (v : Int32) : (upT t j i v).2.2.2.2 a b = if a = j ∧ b = i then v else t.2.2.2.2 a b := by
  show (if a = j then upd (t.2.2.2.2 j) i v else t.2.2.2.2 a) b = _
  by_cases c : a = j
  · subst c
    rw [if_pos rfl]
    show (if b = i then v else t.2.2.2.2 a b) = _
    by_cases c2 : b = i
    · rw [if_pos c2, if_pos ⟨rfl, c2⟩]
    · rw [if_neg c2, if_neg (fun z => c2 z.2)]
  · rw [if_neg c, if_neg (fun z => c z.1)]
def CPY (q : dK) (t : dT) : Prop := t.1 = q.1 25 6 ∧ t.2.1 = q.1 25 7 ∧ t.2.2.1 = q.1 25 6 ∧ t.2.2.2.1 = q.1 25 7
theorem c_copy (ns : Nat) (q : dK) (hL : q.2.2.length < 1000) {m : Nat} (hm : Int32.toInt (q.1 25 6) = (m : Int)) (hm12 : m ≤ 12) : dAll (zX7_copyOfIt_s25 ns q) (fun o => o.1 = Int32.ofNat (q.2.2.length + 1) ∧ ∃ t : dT, NT q o.2 t ∧ CPY q t ∧ (∀ j b : Nat, j < 5 → b < m → t.2.2.2.2 j b = q.1 (26 + j) b) ∧ ∀ b : Nat, b < Int32.toNatClampNeg (q.1 25 7) → t.2.2.2.2 5 b = q.1 31 b) := by
  have d0 : Int32.toInt 0 = 0 := by decide
  have d1 : Int32.toInt 1 = 1 := by decide
  unfold zX7_copyOfIt_s25
  refine dA_G (fun _ => dA_G (fun _ => dA_L (fun q2 e2 => ?_)))
  obtain ⟨c, hc⟩ : ∃ y : Int32, Int32.ofNat (q.2.2.length + 1) = y := ⟨_, rfl⟩
  rw [hc]
  have N2 : NT q q2 (0, 0, q.1 25 6, q.1 25 7, fun _ _ => 0) := by rw [e2]; exact ⟨rfl, rfl, rfl⟩
  refine dA_G (fun _ => dA_L (fun q4 e4 => ?_))
  have N4 : NT q q4 (q.1 25 6, 0, q.1 25 6, q.1 25 7, fun _ _ => 0) := by
    rw [e4, show q2.1 25 6 = q.1 25 6 by rw [N2.1]]
    exact nt_m hc N2 hL (fun t => (q.1 25 6, t.2))
  refine dA_G (fun _ => dA_L (fun q6 e6 => ?_))
  have N6 : NT q q6 (q.1 25 6, q.1 25 7, q.1 25 6, q.1 25 7, fun _ _ => 0) := by
    rw [e6, show q4.1 25 7 = q.1 25 7 by rw [N4.1]]
    exact nt_m hc N4 hL (fun t => (t.1, q.1 25 7, t.2.2))
  clear e2 N2 e4 N4 e6
  unfold zX7_copyOfIt_s25_34
  refine dA_fix (fun (a : dK × Int32 × Int32) => a.2.1 = c ∧ ∃ (i : Nat) (t : dT), i ≤ m ∧ Int32.toInt a.2.2 = (i : Int) ∧ NT q a.1 t ∧ CPY q t ∧ ∀ j b : Nat, j < 5 → b < i → t.2.2.2.2 j b = q.1 (26 + j) b) ?_ dF _ ⟨rfl, 0, _, Nat.zero_le _, d0, N6, ⟨rfl, rfl, rfl, rfl⟩, fun j b _ hb => absurd hb (Nat.not_lt_zero b)⟩
  clear N6
  intro k34 hk34 a ha
  obtain ⟨qa, x1, x2⟩ := a
  obtain ⟨a1, i, t, hi, a2, N, hC, hR⟩ := ha
  replace a1 : c = x1 := Eq.symm a1
  replace a2 : Int32.toInt x2 = (i : Int) := a2
  replace N : NT q qa t := N
  subst a1
  have n2 : Int32.toNatClampNeg x2 = i := by have z := cl_eq (i := x2) (by omega); omega
  show dAll (zX7_copyOfIt_s25_34b ns (fun q x1 x2 => k34 (q, x1, x2)) qa c x2) _
  unfold zX7_copyOfIt_s25_34b
  rw [n2]
  have m6 : qa.1 25 6 = q.1 25 6 := by rw [N.1]
  have m7 : qa.1 25 7 = q.1 25 7 := by rw [N.1]
  refine dA_le (fun cx => ?_) (fun cx => ?_)
  · have ei : i = m := by rw [m6] at cx; omega
    subst ei
    refine dA_G (fun _ => dA_G (fun _ => dA_G (fun _ => dA_L (fun q4 e4 => dA_some ⟨rfl, ?_⟩))))
    have N5 := nt_m hc N hL (fun t => (t.1, t.2.1, t.2.2.1, t.2.2.2.1, fun a => if a = 5 then va_cpy (qa.1 31) (t.2.2.2.2 5) 0 0 (Int32.toNatClampNeg (qa.1 25 7)) else t.2.2.2.2 a))
    replace N5 := nt_e (q2 := q4) N5 e4
    refine ⟨_, N5, hC, fun j b hj hb => ?_, fun b hb => ?_⟩
    · show (if j = 5 then va_cpy (qa.1 31) (t.2.2.2.2 5) 0 0 (Int32.toNatClampNeg (qa.1 25 7)) else t.2.2.2.2 j) b = _
      rw [if_neg (by omega)]
      exact hR j b hj hb
    · show (if 0 ≤ b ∧ b < 0 + Int32.toNatClampNeg (qa.1 25 7) then qa.1 31 (0 + (b - 0)) else t.2.2.2.2 5 b) = _
      rw [m7, if_pos (by omega), N.1, show 0 + (b - 0) = b by omega]
  · have hlt : i < m := by rw [m6] at cx; omega
    refine dA_G (fun _ => dA_G (fun _ => dA_L (fun v7 e7 => dA_G (fun _ => dA_G (fun _ => dA_L (fun q10 e10 => ?_))))))
    have N10 : NT q q10 (upT t 0 i v7) := nt_e (q2 := q10) (nt_m hc N hL (fun t => upT t 0 i v7)) e10
    refine dA_G (fun _ => dA_G (fun _ => dA_L (fun v13 e13 => dA_G (fun _ => dA_G (fun _ => dA_L (fun q16 e16 => ?_))))))
    have N16 : NT q q16 (upT (upT t 0 i v7) 1 i v13) := nt_e (q2 := q16) (nt_m hc N10 hL (fun t => upT t 1 i v13)) e16
    refine dA_G (fun _ => dA_G (fun _ => dA_L (fun v19 e19 => dA_G (fun _ => dA_G (fun _ => dA_L (fun q22 e22 => ?_))))))
    have N22 : NT q q22 (upT (upT (upT t 0 i v7) 1 i v13) 2 i v19) := nt_e (q2 := q22) (nt_m hc N16 hL (fun t => upT t 2 i v19)) e22
    refine dA_G (fun _ => dA_G (fun _ => dA_L (fun v25 e25 => dA_G (fun _ => dA_G (fun _ => dA_L (fun q28 e28 => ?_))))))
    have N28 : NT q q28 (upT (upT (upT (upT t 0 i v7) 1 i v13) 2 i v19) 3 i v25) := nt_e (q2 := q28) (nt_m hc N22 hL (fun t => upT t 3 i v25)) e28
    refine dA_G (fun _ => dA_G (fun _ => dA_L (fun v31 e31 => dA_G (fun _ => dA_G (fun _ => dA_L (fun q34 e34 => ?_))))))
    have N34 : NT q q34 (upT (upT (upT (upT (upT t 0 i v7) 1 i v13) 2 i v19) 3 i v25) 4 i v31) := nt_e (q2 := q34) (nt_m hc N28 hL (fun t => upT t 4 i v31)) e34
    have w7 : v7 = q.1 26 i := by rw [e7, N.1]
    have w13 : v13 = q.1 27 i := by rw [e13, N10.1]
    have w19 : v19 = q.1 28 i := by rw [e19, N16.1]
    have w25 : v25 = q.1 29 i := by rw [e25, N22.1]
    have w31 : v31 = q.1 30 i := by rw [e31, N28.1]
    refine hk34 (q34, c, x2 + 1) ⟨rfl, i + 1, _, by omega, by show Int32.toInt (x2 + 1) = _; rw [ti_add a2 d1 (by omega) (by omega)]; omega, N34, hC, fun j b hj hb => ?_⟩
    rw [upT_r, upT_r, upT_r, upT_r, upT_r]
    by_cases cb : b = i
    · subst cb
      have hj5 : j = 0 ∨ j = 1 ∨ j = 2 ∨ j = 3 ∨ j = 4 := by omega
      rcases hj5 with e | e | e | e | e <;> subst e
      · rw [if_neg (fun z => absurd z.1 (by decide)), if_neg (fun z => absurd z.1 (by decide)), if_neg (fun z => absurd z.1 (by decide)), if_neg (fun z => absurd z.1 (by decide)), if_pos ⟨rfl, rfl⟩]; exact w7
      · rw [if_neg (fun z => absurd z.1 (by decide)), if_neg (fun z => absurd z.1 (by decide)), if_neg (fun z => absurd z.1 (by decide)), if_pos ⟨rfl, rfl⟩]; exact w13
      · rw [if_neg (fun z => absurd z.1 (by decide)), if_neg (fun z => absurd z.1 (by decide)), if_pos ⟨rfl, rfl⟩]; exact w19
      · rw [if_neg (fun z => absurd z.1 (by decide)), if_pos ⟨rfl, rfl⟩]; exact w25
      · rw [if_pos ⟨rfl, rfl⟩]; exact w31
    · rw [if_neg (fun z => cb z.2), if_neg (fun z => cb z.2), if_neg (fun z => cb z.2), if_neg (fun z => cb z.2), if_neg (fun z => cb z.2)]
      exact hR j b hj (by omega)
/-! a kept law, here and there -/
def LRx (q : dK) (x : Int32) (R : Nat → Int32) (F : Nat) : Prop := dlg q x = true ∧ ∃ (T m L : Nat) (cs vs : Nat → Int), T ≤ 400 ∧ Int32.toInt (R (33 + F)) = (T : Int) ∧ (∀ j : Nat, j < T → Int32.toInt (R (40 + (400 * F + j))) = cs j ∧ Int32.toInt (R (2840 + (400 * F + j))) = vs j) ∧ cs T = 0 ∧ Int32.toInt (dTx q x).1 = (m : Int) ∧ L ≤ Int32.toNatClampNeg (dTx q x).2.2.2.1 ∧ Int32.toNatClampNeg (dTx q x).2.2.2.1 ≤ 400 ∧ CLS 0 9 cs vs ((dTx q x).2.2.2.2 0) ((dTx q x).2.2.2.2 1) ((dTx q x).2.2.2.2 2) ((dTx q x).2.2.2.2 3) ((dTx q x).2.2.2.2 4) ((dTx q x).2.2.2.2 5) m T L
theorem LRx.s {q o : dK} {x : Int32} {R S : Nat → Int32} {F : Nat} (h : LRx q x R F) (hd : dlg o x = true) (hX : dTx o x = dTx q x) (h1 : S (33 + F) = R (33 + F)) (h2 : ∀ j : Nat, j < 400 → S (40 + (400 * F + j)) = R (40 + (400 * F + j)) ∧ S (2840 + (400 * F + j)) = R (2840 + (400 * F + j))) : LRx o x S F := by
  obtain ⟨-, T, m, L, cs, vs, k1, k2, k3, k4, k5, k6, k7, k8⟩ := h
  refine ⟨hd, T, m, L, cs, vs, k1, by rw [h1]; exact k2, fun j hj => ?_, k4, ?_⟩
  · rw [(h2 j (by omega)).1, (h2 j (by omega)).2]; exact k3 j hj
  · rw [hX]; exact ⟨k5, k6, k7, k8⟩
theorem dlg_ap {q o : dK} {x : Int32} {t : dT} (h : dlg q x = true) (e : o.2.2 = q.2.2 ++ [t]) : dlg o x = true ∧ dTx o x = dTx q x := by
  have z := of_decide_eq_true h
  refine ⟨decide_eq_true ⟨z.1, by rw [e, List.length_append]; have z2 := z.2; omega⟩, ?_⟩
  unfold dTx
  rw [e, List.getElem?_append_left z.2]
theorem dlg_eq {q o : dK} {x : Int32} (h : dlg q x = true) (e : o.2.2 = q.2.2) : dlg o x = true ∧ dTx o x = dTx q x := by
  unfold dlg dTx at *
  rw [e]
  exact ⟨h, rfl⟩
/-- seated: the law in force -/
theorem LRf_of {q : dK} {q2 : dS} {F : Nat} (h : LRx q (q.1 20 2) (q2.1 2) F) (hF : F ≤ 5) (h32 : Int32.toInt (q2.1 2 32) = (F : Int)) : LRf q q2 := by
  obtain ⟨hd, T, m, L, cs, vs, k1, k2, k3, k4, k5⟩ := h
  exact Or.inr ⟨(of_decide_eq_true hd).1, F, T, m, L, cs, vs, hF, h32, k1, k2, k3, k4, k5⟩
theorem CLS.c {oo W : Int} {cs vs : Nat → Int} {K Tm S1 S2 S3 C K' Tm' S1' S2' S3' C' : Nat → Int32} {m T L : Nat} (h : CLS oo W cs vs K Tm S1 S2 S3 C m T L) (e : ∀ i : Nat, i < m → K' i = K i ∧ Tm' i = Tm i ∧ S1' i = S1 i ∧ S2' i = S2 i ∧ S3' i = S3 i) (eC : ∀ i : Nat, i < L → C' i = C i) : CLS oo W cs vs K' Tm' S1' S2' S3' C' m T L := by
  obtain ⟨ts, ws, fa, fb, fc, h1, h2, h3, h4⟩ := h
  refine ⟨ts, ws, fa, fb, fc, h1, h2, h3, fun i hi => ?_⟩
  obtain ⟨k1, k2, k3, k4, k5, k6, k7, k8⟩ := h4 i hi
  obtain ⟨e1, e2, e3, e4, e5⟩ := e i hi
  rw [e1, e2, e3, e4, e5]
  exact ⟨k1, k2, k3, k4, k5, k6, k7.fr k4 k5 (fun j hj => eC j (by omega)), k8⟩
