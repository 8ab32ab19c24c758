/-! what can be undone: both sides -/
theorem TWR_a {t : Nat} {q : dK} {R : Nat → Int32} : TWR t q R ↔ aT t q = (Int32.toInt (R 29), i6 R, i6 (fun k => R (6 + k)), Int32.toInt (R 12), Int32.toInt (R 13)) := by
  constructor
  · intro h
    obtain ⟨t1, t2, t3, t4⟩ := h
    exact Prod.ext t1 (Prod.ext (i6_e (fun i hi => (t2 i hi).1)) (Prod.ext (i6_e (g := fun k => R (6 + k)) (fun i hi => (t2 i hi).2)) (Prod.ext t3 t4)))
  · intro h
    have h1 : Int32.toInt (q.1 t 2) = Int32.toInt (R 29) := congrArg (fun a : At => a.1) h
    have h2 : i6 (q.1 (t + 1)) = i6 R := congrArg (fun a : At => a.2.1) h
    have h3 : i6 (q.1 (t + 2)) = i6 (fun k => R (6 + k)) := congrArg (fun a : At => a.2.2.1) h
    have h4 : Int32.toInt (q.1 t 3) = Int32.toInt (R 12) := congrArg (fun a : At => a.2.2.2.1) h
    have h5 : Int32.toInt (q.1 t 4) = Int32.toInt (R 13) := congrArg (fun a : At => a.2.2.2.2) h
    refine ⟨h1, fun i hi => ⟨?_, ?_⟩, h4, h5⟩
    · have z := congrFun h2 i
      rw [i6_l hi, i6_l hi] at z
      exact z
    · have z := congrFun h3 i
      rw [i6_l hi, i6_l hi] at z
      exact z
/-- one kept tower: packed here, 15 numbers there -/
def HI (x : Int64) (kd : Int32) (R : Nat → Int32) (n : Int32) : Prop := unp x.toInt = (Int32.toInt n, i6 R, i6 (fun k => R (6 + k)), Int32.toInt (R 12), Int32.toInt (R 13)) ∧ kd = R 14
def HRl (q : dK) (q2 : dS) : Prop := ∃ n : Nat, n ≤ 16 ∧ Int32.toInt (q.1 10 2) = (n : Int) ∧ Int32.toInt (q2.1 0 32) = (n : Int) ∧ ∀ i : Nat, i < n → HI (q.2.1 11 i) (q.1 12 i) (fun k => q2.1 14 (15 * i + k)) (q2.1 2 29)
theorem HI.c {x : Int64} {kd : Int32} {R S : Nat → Int32} {n m : Int32} (h : HI x kd R n) (e : ∀ k : Nat, k < 15 → S k = R k) (hn : m = n) : HI x kd S m := by
  subst hn
  refine ⟨h.1.trans ?_, h.2.trans (e 14 (by decide)).symm⟩
  rw [e 12 (by decide), e 13 (by decide)]
  exact Prod.ext rfl (Prod.ext (i6_e (fun i hi => congrArg Int32.toInt (e i (by omega)).symm)) (Prod.ext (i6_e (g := fun k => S (6 + k)) (fun i hi => congrArg Int32.toInt (e (6 + i) (by omega)).symm)) rfl))
theorem HI_pk {q : dK} {R : Nat → Int32} {x : Int64} (kd : Int32) (hT : TC q) (h : TWR 2 q R) (e : x.toInt = pk (aT 2 q)) : HI x kd (fun k => if k = 14 then kd else R k) (R 29) := by
  refine ⟨?_, (if_pos rfl).symm⟩
  rw [e, unp_pk (tc_a2 hT), TWR_a.mp h]
  refine Prod.ext rfl (Prod.ext (i6_e (fun i hi => ?_)) (Prod.ext (i6_e (g := fun k => if 6 + k = 14 then kd else R (6 + k)) (fun i hi => ?_)) (Prod.ext ?_ ?_)))
  · show Int32.toInt (R i) = Int32.toInt (if i = 14 then kd else R i)
    rw [if_neg (by omega)]
  · show Int32.toInt (R (6 + i)) = Int32.toInt (if 6 + i = 14 then kd else R (6 + i))
    rw [if_neg (by omega)]
  · show Int32.toInt (R 12) = Int32.toInt (if 12 = 14 then kd else R 12)
    rw [if_neg (by decide)]
  · show Int32.toInt (R 13) = Int32.toInt (if 13 = 14 then kd else R 13)
    rw [if_neg (by decide)]
def hsh {α : Type} (n : Nat) (f : Nat → α) (v : α) (i : Nat) : α := if n < 16 then (if i = n then v else f i) else (if i = 15 then v else f (i + 1))
def hnx (n : Nat) : Nat := if n < 16 then n + 1 else 16
theorem hsh_16 {α : Type} {f : Nat → α} {v : α} {i : Nat} : hsh 16 f v i = if i = 15 then v else f (i + 1) := if_neg (by decide)
/-- keeping: what stays here, there -/
def kH (q o : dK) : Prop := (∀ j k : Nat, ¬ j = 12 → ¬ (j = 10 ∧ k = 2) → o.1 j k = q.1 j k) ∧ (∀ j : Nat, ¬ j = 11 → o.2.1 j = q.2.1 j) ∧ o.2.2 = q.2.2
def mH (q o : dS) : Prop := (∀ j k : Nat, ¬ j = 14 → ¬ (j = 0 ∧ k = 32) → o.1 j k = q.1 j k) ∧ o.2 = q.2
theorem c_keep45 (q : dK) (p1 : Int32) (p2 : Int64) {n : Nat} (h : Int32.toInt (q.1 10 2) = (n : Int)) (hn : n < 16) : dAll (zX0_keep_s10_45 q p1 p2) (fun o => Int32.toInt (o.1 10 2) = (n : Int) + 1 ∧ (∀ i : Nat, o.2.1 11 i = if i = n then p2 else q.2.1 11 i) ∧ (∀ i : Nat, o.1 12 i = if i = n then p1 else q.1 12 i) ∧ kH q o) := by
  have d1 : Int32.toInt 1 = 1 := by decide
  have n1 : Int32.toNatClampNeg (q.1 10 2) = n := by have z := cl_eq (i := q.1 10 2) (by omega); omega
  unfold zX0_keep_s10_45
  refine dA_G (fun _ => dA_L (fun q2 e2 => dA_G (fun _ => dA_L (fun q4 e4 => dA_L (fun q5 e5 => dA_some ?_)))))
  have r2 : q2.1 = q.1 := by rw [e2]; rfl
  have z4 : q4.1 10 2 = q.1 10 2 := by rw [e4, cui_o (by decide), r2]
  have el : ∀ i : Nat, q5.2.1 11 i = if i = Int32.toNatClampNeg (q.1 10 2) then p2 else q.2.1 11 i := by
    intro i
    rw [e5, e4, e2]
    rfl
  refine ⟨?_, fun i => ?_, fun i => ?_, fun j k h1 h2 => ?_, fun j hj => ?_, ?_⟩
  · rw [e5, cui_e, z4, ti_add h d1 (by omega) (by omega)]
  · rw [el, n1]
  · rw [e5, cui_o (by decide), e4, r2, n1, cui_s, r2]
    rfl
  · rw [e5]
    by_cases c : j = 10
    · rw [c, cui_n (fun z => h2 ⟨c, z⟩), e4, cui_o (by decide), r2]
    · rw [cui_o c, e4, cui_o h1, r2]
  · rw [e5, e4, e2]
    exact if_neg hj
  · rw [e5, e4, e2]
    rfl
theorem c_keep (q : dK) (p1 : Int32) (p2 : Int64) {n : Nat} (h : Int32.toInt (q.1 10 2) = (n : Int)) (hn : n ≤ 16) : dAll (zX0_keep_s10 q p1 p2) (fun o => Int32.toInt (o.1 10 2) = (hnx n : Nat) ∧ (∀ i : Nat, i < hnx n → o.2.1 11 i = hsh n (q.2.1 11) p2 i ∧ o.1 12 i = hsh n (q.1 12) p1 i) ∧ kH q o) := by
  have d16 : Int32.toInt 16 = 16 := by decide
  have d15 : Int32.toInt 15 = ((15 : Nat) : Int) := by decide
  unfold zX0_keep_s10
  refine dA_lt (fun c => ?_) (fun c => ?_)
  · have c1 : n < 16 := by omega
    refine dA_mono (c_keep45 q p1 p2 h c1) (fun o z => ⟨?_, fun i _ => ⟨?_, ?_⟩, z.2.2.2⟩)
    · rw [z.1]; unfold hnx; rw [if_pos c1]; omega
    · rw [z.2.1 i]; unfold hsh; rw [if_pos c1]
    · rw [z.2.2.1 i]; unfold hsh; rw [if_pos c1]
  · have c1 : ¬ n < 16 := by omega
    refine dA_L (fun q1 e1 => dA_L (fun q2 e2 => dA_L (fun q3 e3 => ?_)))
    have r1 : q1.1 = q.1 := by rw [e1]; rfl
    have l1 : ∀ i : Nat, i < 15 → q3.2.1 11 i = q.2.1 11 (i + 1) := by
      intro i hi
      rw [e3, e2, e1]
      show (if 0 ≤ i ∧ i < 0 + 15 then q.2.1 11 (1 + (i - 0)) else q.2.1 11 i) = _
      rw [if_pos (by omega), show 1 + (i - 0) = i + 1 by omega]
    have l2 : ∀ i : Nat, i < 15 → q3.1 12 i = q.1 12 (i + 1) := by
      intro i hi
      rw [e3, cui_o (by decide), e2]
      show (if 0 ≤ i ∧ i < 0 + 15 then q1.1 12 (1 + (i - 0)) else q1.1 12 i) = _
      rw [if_pos (by omega), r1, show 1 + (i - 0) = i + 1 by omega]
    refine dA_mono (c_keep45 q3 p1 p2 (n := 15) (by rw [e3, cui_e]; exact d15) (by decide)) (fun o z => ⟨?_, fun i hi => ⟨?_, ?_⟩, fun j k h1 h2 => ?_, fun j hj => ?_, ?_⟩)
    · rw [z.1]; unfold hnx; rw [if_neg c1]; rfl
    · rw [z.2.1 i]; unfold hsh; rw [if_neg c1]
      by_cases ci : i = 15
      · rw [if_pos ci, if_pos ci]
      · rw [if_neg ci, if_neg ci]
        unfold hnx at hi
        rw [if_neg c1] at hi
        exact l1 i (by omega)
    · rw [z.2.2.1 i]; unfold hsh; rw [if_neg c1]
      by_cases ci : i = 15
      · rw [if_pos ci, if_pos ci]
      · rw [if_neg ci, if_neg ci]
        unfold hnx at hi
        rw [if_neg c1] at hi
        exact l2 i (by omega)
    · rw [z.2.2.2.1 j k h1 h2, e3]
      by_cases c10 : j = 10
      · rw [c10, cui_n (fun y => h2 ⟨c10, y⟩), e2]
        show (if 10 = 12 then va_cpy (q1.1 12) (q1.1 12) 1 0 15 else q1.1 10) k = _
        rw [if_neg (by decide), r1]
      · rw [cui_o c10, e2]
        show (if j = 12 then va_cpy (q1.1 12) (q1.1 12) 1 0 15 else q1.1 j) k = _
        rw [if_neg h1, r1]
    · rw [z.2.2.2.2.1 j hj, e3, e2, e1]
      exact if_neg hj
    · rw [z.2.2.2.2.2, e3, e2, e1]
      rfl
theorem m_keep52 (q : dS) (p : Int32) {n : Nat} (h : Int32.toInt (q.1 0 32) = (n : Int)) (hn : n < 16) : dAll (zX10_keeps_52 q p 15) (fun o => Int32.toInt (o.1 0 32) = (n : Int) + 1 ∧ (∀ j : Nat, o.1 14 j = if j = 15 * n + 14 then p else if 15 * n ≤ j ∧ j < 15 * n + 14 then q.1 2 (j - 15 * n) else q.1 14 j) ∧ mH q o) := by
  have d0 : Int32.toInt 0 = 0 := by decide
  have d1 : Int32.toInt 1 = 1 := by decide
  have d14 : Int32.toInt 14 = 14 := by decide
  have d15 : Int32.toInt 15 = 15 := by decide
  unfold zX10_keeps_52 zX10_keeps_54
  refine dA_fix (fun (a : dS × Int32 × Int32 × Int32) => a.2.1 = p ∧ a.2.2.1 = 15 ∧ (∃ i : Nat, i ≤ 14 ∧ Int32.toInt a.2.2.2 = (i : Int) ∧ ∀ j : Nat, a.1.1 14 j = if 15 * n ≤ j ∧ j < 15 * n + i then q.1 2 (j - 15 * n) else q.1 14 j) ∧ (∀ j k : Nat, ¬ j = 14 → a.1.1 j k = q.1 j k) ∧ a.1.2 = q.2) ?_ dF _ ⟨rfl, rfl, ⟨0, by decide, d0, fun j => (if_neg (by omega)).symm⟩, fun _ _ _ => rfl, rfl⟩
  intro k hk a ha
  obtain ⟨qa, x1, x2, x3⟩ := a
  obtain ⟨h1, h2, ⟨i, hi, h3, h4⟩, h5, h6⟩ := ha
  replace h1 : x1 = p := h1
  replace h2 : x2 = 15 := h2
  replace h3 : Int32.toInt x3 = (i : Int) := h3
  replace h4 : ∀ j : Nat, qa.1 14 j = if 15 * n ≤ j ∧ j < 15 * n + i then q.1 2 (j - 15 * n) else q.1 14 j := h4
  replace h5 : ∀ j k : Nat, ¬ j = 14 → qa.1 j k = q.1 j k := h5
  replace h6 : qa.2 = q.2 := h6
  subst h1 h2
  show dAll (zX10_keeps_54b (fun q x1 x2 x3 => k (q, x1, x2, x3)) qa x1 15 x3) _
  unfold zX10_keeps_54b
  have e32 : qa.1 0 32 = q.1 0 32 := h5 0 32 (by decide)
  have tm : Int32.toInt (15 * (qa.1 0 32) : Int32) = 15 * (n : Int) := by rw [e32]; exact ti_mul d15 h (by omega) (by omega)
  refine dA_le (fun c => ?_) (fun c => ?_)
  · have ei : i = 14 := by omega
    subst ei
    have t14 : Int32.toInt (15 * (qa.1 0 32) + 14 : Int32) = 15 * (n : Int) + 14 := ti_add tm d14 (by omega) (by omega)
    have n14 : Int32.toNatClampNeg (15 * (qa.1 0 32) + 14 : Int32) = 15 * n + 14 := by have z := cl_eq (i := (15 * (qa.1 0 32) + 14 : Int32)) (by omega); omega
    rw [n14]
    refine dA_G (fun _ => dA_L (fun q2 e2 => dA_L (fun q3 e3 => dA_some ⟨?_, fun j => ?_, fun j b k1 k2 => ?_, ?_⟩)))
    · have e4 : q2.1 0 32 = q.1 0 32 := by rw [e2, dui_o (by decide), e32]
      rw [e3, dui_e, e4, ti_add h d1 (by omega) (by omega)]
    · rw [e3, dui_o (by decide), e2]
      by_cases cj : j = 15 * n + 14
      · rw [cj, dui_e, if_pos rfl]
      · rw [dui_n cj, if_neg cj]; exact h4 j
    · rw [e3]
      by_cases c0 : j = 0
      · rw [c0, dui_n (fun z => k2 ⟨c0, z⟩), e2, dui_o (by decide)]; exact h5 0 b (by decide)
      · rw [dui_o c0, e2, dui_o k1]; exact h5 j b k1
    · rw [e3, e2]; exact h6
  · have hi2 : i < 14 := by omega
    have n3 : Int32.toNatClampNeg x3 = i := by have z := cl_eq (i := x3) (by omega); omega
    have t3 : Int32.toInt (15 * (qa.1 0 32) + x3 : Int32) = 15 * (n : Int) + (i : Int) := ti_add tm h3 (by omega) (by omega)
    have m3 : Int32.toNatClampNeg (15 * (qa.1 0 32) + x3 : Int32) = 15 * n + i := by have z := cl_eq (i := (15 * (qa.1 0 32) + x3 : Int32)) (by omega); omega
    rw [n3, m3]
    refine dA_G (fun _ => dA_L (fun v5 e5 => dA_G (fun _ => dA_L (fun q7 e7 => ?_))))
    refine hk (q7, x1, 15, x3 + 1) ⟨rfl, rfl, ⟨i + 1, by omega, by show Int32.toInt (x3 + 1) = _; rw [ti_add h3 d1 (by omega) (by omega)]; omega, fun j => ?_⟩, fun j b k1 => ?_, ?_⟩
    · show q7.1 14 j = _
      rw [e7]
      by_cases cj : j = 15 * n + i
      · rw [cj, dui_e, e5, if_pos (by omega), show 15 * n + i - 15 * n = i by omega]
        exact h5 2 i (by decide)
      · rw [dui_n cj, h4 j]
        by_cases cc : 15 * n ≤ j ∧ j < 15 * n + i
        · rw [if_pos cc, if_pos (by omega)]
        · rw [if_neg cc, if_neg (by omega)]
    · show q7.1 j b = _
      rw [e7, dui_o k1]; exact h5 j b k1
    · show q7.2 = q.2
      rw [e7]; exact h6
theorem m_keep (q : dS) (p : Int32) {n : Nat} (h : Int32.toInt (q.1 0 32) = (n : Int)) (hn : n ≤ 16) : dAll (zX10_keeps q p) (fun o => Int32.toInt (o.1 0 32) = (hnx n : Nat) ∧ (∀ i k : Nat, i < hnx n → k < 15 → o.1 14 (15 * i + k) = hsh n (fun i => q.1 14 (15 * i + k)) (if k = 14 then p else q.1 2 k) i) ∧ mH q o) := by
  have d0 : Int32.toInt 0 = 0 := by decide
  have d1 : Int32.toInt 1 = 1 := by decide
  have d15 : Int32.toInt 15 = 15 := by decide
  have d16 : Int32.toInt 16 = 16 := by decide
  unfold zX10_keeps
  refine dA_eq (fun _ c => ?_) (fun _ c => ?_)
  · have en : n = 16 := by omega
    subst en
    have hd : Int32.toInt (15 * 15 : Int32) = 225 := by decide
    unfold zX10_keeps_14
    refine dA_fix (fun (a : dS × Int32 × Int32 × Int32) => a.2.1 = p ∧ a.2.2.1 = 15 ∧ (∃ i : Nat, i ≤ 225 ∧ Int32.toInt a.2.2.2 = (i : Int) ∧ ∀ j : Nat, a.1.1 14 j = if j < i then q.1 14 (j + 15) else q.1 14 j) ∧ (∀ j k : Nat, ¬ j = 14 → a.1.1 j k = q.1 j k) ∧ a.1.2 = q.2) ?_ dF _ ⟨rfl, rfl, ⟨0, by decide, d0, fun j => (if_neg (by omega)).symm⟩, fun _ _ _ => rfl, rfl⟩
    intro k hk a ha
    obtain ⟨qa, x1, x2, x3⟩ := a
    obtain ⟨h1, h2, ⟨i, hi, h3, h4⟩, h5, h6⟩ := ha
    replace h1 : x1 = p := h1
    replace h2 : x2 = 15 := h2
    replace h3 : Int32.toInt x3 = (i : Int) := h3
    replace h4 : ∀ j : Nat, qa.1 14 j = if j < i then q.1 14 (j + 15) else q.1 14 j := h4
    replace h5 : ∀ j k : Nat, ¬ j = 14 → qa.1 j k = q.1 j k := h5
    replace h6 : qa.2 = q.2 := h6
    subst h1 h2
    show dAll (zX10_keeps_14b (fun q x1 x2 x3 => k (q, x1, x2, x3)) qa x1 15 x3) _
    unfold zX10_keeps_14b
    refine dA_le (fun c2 => ?_) (fun c2 => ?_)
    · have ei : i = 225 := by omega
      subst ei
      refine dA_L (fun q1 e1 => ?_)
      have e32 : Int32.toInt (q1.1 0 32) = ((15 : Nat) : Int) := by rw [e1, dui_e, h5 0 32 (by decide), ti_sub h d1 (by omega) (by omega)]; omega
      refine dA_mono (m_keep52 q1 x1 e32 (by decide)) (fun o z => ⟨?_, fun i k hi hk => ?_, fun j b k1 k2 => ?_, ?_⟩)
      · rw [z.1]; rfl
      · have hi2 : i < 16 := hi
        rw [hsh_16, z.2.1]
        by_cases ci : i = 15
        · rw [if_pos ci]
          subst ci
          by_cases ck : k = 14
          · rw [if_pos ck, if_pos (by omega)]
          · rw [if_neg ck, if_neg (by omega), if_pos (by omega), show 15 * 15 + k - 15 * 15 = k by omega, e1, dui_o (by decide)]
            exact h5 2 k (by decide)
        · rw [if_neg ci, if_neg (by omega), if_neg (by omega), e1, dui_o (by decide), h4, if_pos (by omega), show 15 * i + k + 15 = 15 * (i + 1) + k by omega]
      · rw [z.2.2.1 j b k1 k2, e1]
        by_cases c0 : j = 0
        · rw [c0, dui_n (fun y => k2 ⟨c0, y⟩)]; exact h5 0 b (by decide)
        · rw [dui_o c0]; exact h5 j b k1
      · rw [z.2.2.2, e1]; exact h6
    · have n3 : Int32.toNatClampNeg x3 = i := by have z := cl_eq (i := x3) (by omega); omega
      have t3 : Int32.toInt (x3 + 15 : Int32) = (i : Int) + 15 := ti_add h3 d15 (by omega) (by omega)
      have m3 : Int32.toNatClampNeg (x3 + 15 : Int32) = i + 15 := by have z := cl_eq (i := (x3 + 15 : Int32)) (by omega); omega
      rw [n3, m3]
      refine dA_G (fun _ => dA_L (fun v5 e5 => dA_G (fun _ => dA_L (fun q7 e7 => ?_))))
      refine hk (q7, x1, 15, x3 + 1) ⟨rfl, rfl, ⟨i + 1, by omega, by show Int32.toInt (x3 + 1) = _; rw [ti_add h3 d1 (by omega) (by omega)]; omega, fun j => ?_⟩, fun j b k1 => ?_, ?_⟩
      · show q7.1 14 j = _
        rw [e7]
        by_cases cj : j = i
        · rw [cj, dui_e, e5, if_pos (by omega), h4, if_neg (by omega)]
        · rw [dui_n cj, h4 j]
          by_cases cc : j < i
          · rw [if_pos cc, if_pos (by omega)]
          · rw [if_neg cc, if_neg (by omega)]
      · show q7.1 j b = _
        rw [e7, dui_o k1]; exact h5 j b k1
      · show q7.2 = q.2
        rw [e7]; exact h6
  · have c1 : n < 16 := by omega
    refine dA_mono (m_keep52 q p h c1) (fun o z => ⟨?_, fun i k hi hk => ?_, z.2.2⟩)
    · rw [z.1]; unfold hnx; rw [if_pos c1]; omega
    · rw [z.2.1]
      unfold hsh
      unfold hnx at hi
      rw [if_pos c1] at hi
      rw [if_pos c1]
      by_cases ci : i = n
      · rw [if_pos ci]
        subst ci
        by_cases ck : k = 14
        · rw [if_pos ck, if_pos (by omega)]
        · rw [if_neg ck, if_neg (by omega), if_pos (by omega), show 15 * i + k - 15 * i = k by omega]
      · rw [if_neg ci, if_neg (by omega), if_neg (by omega)]
/-- kept on both sides -/
theorem jh_keep {q o : dK} {q2 o2 : dS} {x : Int64} {kd : Int32} {n : Nat} (hn : n ≤ 16) (hh : ∀ i : Nat, i < n → HI (q.2.1 11 i) (q.1 12 i) (fun k => q2.1 14 (15 * i + k)) (q2.1 2 29)) (hx : HI x kd (fun k => if k = 14 then kd else q2.1 2 k) (q2.1 2 29)) (h1 : Int32.toInt (o.1 10 2) = (hnx n : Nat)) (h2 : ∀ i : Nat, i < hnx n → o.2.1 11 i = hsh n (q.2.1 11) x i ∧ o.1 12 i = hsh n (q.1 12) kd i) (h3 : Int32.toInt (o2.1 0 32) = (hnx n : Nat)) (h4 : ∀ i k : Nat, i < hnx n → k < 15 → o2.1 14 (15 * i + k) = hsh n (fun i => q2.1 14 (15 * i + k)) (if k = 14 then kd else q2.1 2 k) i) (h5 : o2.1 2 29 = q2.1 2 29) : HRl o o2 := by
  have hl : hnx n ≤ 16 := by unfold hnx; split <;> omega
  refine ⟨hnx n, hl, h1, h3, fun i hi => ?_⟩
  have z := h2 i hi
  rw [z.1, z.2]
  by_cases c : n < 16
  · have hi2 : i < n + 1 := by unfold hnx at hi; rw [if_pos c] at hi; exact hi
    by_cases ci : i = n
    · have e1 : hsh n (q.2.1 11) x i = x := by unfold hsh; rw [if_pos c, if_pos ci]
      have e2 : hsh n (q.1 12) kd i = kd := by unfold hsh; rw [if_pos c, if_pos ci]
      rw [e1, e2]
      refine hx.c (fun k hk => ?_) h5
      show o2.1 14 (15 * i + k) = _
      rw [h4 i k hi hk]; unfold hsh; rw [if_pos c, if_pos ci]
    · have e1 : hsh n (q.2.1 11) x i = q.2.1 11 i := by unfold hsh; rw [if_pos c, if_neg ci]
      have e2 : hsh n (q.1 12) kd i = q.1 12 i := by unfold hsh; rw [if_pos c, if_neg ci]
      rw [e1, e2]
      refine (hh i (by omega)).c (fun k hk => ?_) h5
      show o2.1 14 (15 * i + k) = _
      rw [h4 i k hi hk]; unfold hsh; rw [if_pos c, if_neg ci]
  · have hi2 : i < 16 := by unfold hnx at hi; rw [if_neg c] at hi; exact hi
    by_cases ci : i = 15
    · have e1 : hsh n (q.2.1 11) x i = x := by unfold hsh; rw [if_neg c, if_pos ci]
      have e2 : hsh n (q.1 12) kd i = kd := by unfold hsh; rw [if_neg c, if_pos ci]
      rw [e1, e2]
      refine hx.c (fun k hk => ?_) h5
      show o2.1 14 (15 * i + k) = _
      rw [h4 i k hi hk]; unfold hsh; rw [if_neg c, if_pos ci]
    · have e1 : hsh n (q.2.1 11) x i = q.2.1 11 (i + 1) := by unfold hsh; rw [if_neg c, if_neg ci]
      have e2 : hsh n (q.1 12) kd i = q.1 12 (i + 1) := by unfold hsh; rw [if_neg c, if_neg ci]
      rw [e1, e2]
      refine (hh (i + 1) (by omega)).c (fun k hk => ?_) h5
      show o2.1 14 (15 * i + k) = _
      rw [h4 i k hi hk]; unfold hsh; rw [if_neg c, if_neg ci]
/-- one turned back: there -/
theorem m_undo34 (q : dS) (x : Int32) {n : Nat} (hn : n < 16) (hx : Int32.toInt x = 15 * (n : Int)) : dAll (zX10_undo_34 dF q x 0) (fun o => o.1 = q.1 14 (15 * n + 14) ∧ (∀ k : Nat, k < 14 → o.2.1 2 k = q.1 14 (15 * n + k)) ∧ (∀ j k : Nat, ¬ (j = 2 ∧ k < 14) → ¬ (j = 0 ∧ k = 0) → o.2.1 j k = q.1 j k) ∧ o.2.2 = q.2) := by
  have d0 : Int32.toInt 0 = 0 := by decide
  have d1 : Int32.toInt 1 = 1 := by decide
  have d14 : Int32.toInt 14 = 14 := by decide
  unfold zX10_undo_34
  refine dA_fix (fun (a : dS × Int32 × Int32) => a.2.1 = x ∧ (∃ i : Nat, i ≤ 14 ∧ Int32.toInt a.2.2 = (i : Int) ∧ ∀ k : Nat, k < i → a.1.1 2 k = q.1 14 (15 * n + k)) ∧ (∀ j k : Nat, ¬ (j = 2 ∧ k < 14) → a.1.1 j k = q.1 j k) ∧ a.1.2 = q.2) ?_ dF _ ⟨rfl, ⟨0, by decide, d0, fun j hj => absurd hj (by omega)⟩, fun _ _ _ => rfl, rfl⟩
  intro k hk a ha
  obtain ⟨qa, x1, x2⟩ := a
  obtain ⟨h1, ⟨i, hi, h2, h3⟩, h4, h5⟩ := ha
  replace h1 : x1 = x := h1
  replace h2 : Int32.toInt x2 = (i : Int) := h2
  replace h3 : ∀ k : Nat, k < i → qa.1 2 k = q.1 14 (15 * n + k) := h3
  replace h4 : ∀ j k : Nat, ¬ (j = 2 ∧ k < 14) → qa.1 j k = q.1 j k := h4
  replace h5 : qa.2 = q.2 := h5
  subst h1
  show dAll (zX10_undo_34b (fun q x1 x2 => k (q, x1, x2)) qa x1 x2) _
  unfold zX10_undo_34b zX10_good
  refine dA_le (fun c => ?_) (fun c => ?_)
  · have ei : i = 14 := by omega
    subst ei
    have t14 : Int32.toInt (x1 + 14 : Int32) = 15 * (n : Int) + 14 := ti_add hx d14 (by omega) (by omega)
    have n14 : Int32.toNatClampNeg (x1 + 14 : Int32) = 15 * n + 14 := by have z := cl_eq (i := (x1 + 14 : Int32)) (by omega); omega
    rw [n14]
    refine dA_G (fun _ => dA_L (fun v2 e2 => ?_))
    show dAll (dL (dui qa 0 0 0) (fun q1 => some (v2, q1))) _
    refine dA_L (fun q1 e1 => dA_some ⟨?_, fun k hk => ?_, fun j b k1 k2 => ?_, ?_⟩)
    · show v2 = _
      rw [e2]; exact h4 14 _ (by omega)
    · show q1.1 2 k = _
      rw [e1, dui_o (by decide)]; exact h3 k hk
    · show q1.1 j b = _
      rw [e1]
      by_cases c0 : j = 0
      · rw [c0, dui_n (fun y => k2 ⟨c0, y⟩)]; exact h4 0 b (by omega)
      · rw [dui_o c0]; exact h4 j b k1
    · show q1.2 = q.2
      rw [e1]; exact h5
  · have n2 : Int32.toNatClampNeg x2 = i := by have z := cl_eq (i := x2) (by omega); omega
    have t2 : Int32.toInt (x1 + x2 : Int32) = 15 * (n : Int) + (i : Int) := ti_add hx h2 (by omega) (by omega)
    have m2 : Int32.toNatClampNeg (x1 + x2 : Int32) = 15 * n + i := by have z := cl_eq (i := (x1 + x2 : Int32)) (by omega); omega
    rw [n2, m2]
    refine dA_G (fun _ => dA_L (fun v7 e7 => dA_G (fun _ => dA_L (fun q9 e9 => ?_))))
    refine hk (q9, x1, x2 + 1) ⟨rfl, ⟨i + 1, by omega, by show Int32.toInt (x2 + 1) = _; rw [ti_add h2 d1 (by omega) (by omega)]; omega, fun k hk => ?_⟩, fun j b k1 => ?_, ?_⟩
    · show q9.1 2 k = _
      rw [e9]
      by_cases ck : k = i
      · rw [ck, dui_e, e7]; exact h4 14 _ (by omega)
      · rw [dui_n ck]; exact h3 k (by omega)
    · show q9.1 j b = _
      rw [e9]
      by_cases c2 : j = 2
      · rw [c2, dui_n (fun y => k1 ⟨c2, by omega⟩), ← c2]; exact h4 j b k1
      · rw [dui_o c2]; exact h4 j b k1
    · show q9.2 = q.2
      rw [e9]; exact h5
