/-! numberOf is nmL of the line -/
theorem drop_ex : ∀ (i : Nat) {l : List Nat}, i < l.length → ∃ x : Nat, l.drop i = x :: l.drop (i + 1) ∧ l.getD i 0 = x := by
  intro i
  induction i with
  | zero =>
    intro l h
    cases l with
    | nil => exact absurd h (Nat.not_lt_zero 0)
    | cons y ys => exact ⟨y, rfl, rfl⟩
  | succ i ih =>
    intro l h
    cases l with
    | nil => exact absurd h (Nat.not_lt_zero _)
    | cons y ys =>
      have h2 : i < ys.length := Nat.lt_of_succ_lt_succ h
      obtain ⟨x, h3, h4⟩ := ih h2
      exact ⟨x, h3, h4⟩
theorem ok_numberOf2 (q : dS) (n : Nat) (l : List Nat) (hT : TS q) (hn : (q.1 2 29).toInt = (n : Int)) (hl : l.length = n) (h6 : ∀ j : Nat, j < n → l.getD j 0 < 6) (hv : ∀ j : Nat, j < n → q.1 19 j = nI (l.getD j 0)) : dOk (zX10_numberOf q) (fun o => o.2 = q ∧ o.1 = nI (nmL 0 l)) := by
  have fs : 0 ≤ Int32.toInt (q.1 2 29) ∧ Int32.toInt (q.1 2 29) ≤ 6 := hT.1 2 29
  have hn6 : n ≤ 6 := by omega
  unfold zX10_numberOf zX10_numberOf_4
  refine dFix_ok (fun (a : dS × Int32 × Int32) => a.1 = q ∧ ∃ i c : Nat, i ≤ n ∧ a.2.2 = nI i ∧ a.2.1 = nI c ∧ nmL c (l.drop i) = nmL 0 l) (fun (a : dS × Int32 × Int32) => (6 - a.2.2.toInt).toNat) ?_ _ ⟨rfl, 0, 0, by omega, rfl, rfl, rfl⟩ _ (dF_gt (by show (6 - Int32.toInt 0).toNat < 1000000000000; decide))
  intro a ha k4 hk4
  obtain ⟨qa, x1, x2⟩ := a
  obtain ⟨e0, i, c, hi, e2, e1, hnm⟩ := ha
  replace e0 : qa = q := e0
  replace e2 : x2 = nI i := e2
  replace e1 : x1 = nI c := e1
  subst e0 e2 e1
  have ti : Int32.toInt (nI i) = (i : Int) := nI_toInt (by omega)
  show dOk (zX10_numberOf_4b (fun q x1 x2 => k4 (q, x1, x2)) qa (nI c) (nI i)) _
  unfold zX10_numberOf_4b
  refine dOk_B (ok_size qa hT) (fun r1 q3 hr => ?_)
  have eq3 : q3 = qa := hr.1
  have hr1 : Int32.toInt r1 = Int32.toInt (qa.1 2 29) := hr.2.1
  subst eq3
  refine dOk_le rfl ti (fun cc => ?_) (fun cc => ?_)
  · have hz : l.drop i = [] := List.drop_eq_nil_of_le (by omega)
    rw [hz] at hnm
    exact dOk_some ⟨rfl, congrArg nI hnm⟩
  obtain ⟨x, hx, hgx⟩ := drop_ex i (l := l) (by omega)
  have hlen : (l.drop (i + 1)).length + 1 = n - i := by
    have h1 := congrArg List.length hx
    rw [List.length_drop, List.length_cons] at h1
    omega
  unfold zX10_numberOf_19
  refine dFix_ok (fun (a : dS × Int32 × Int32 × Int32 × Int32) => a.1 = q3 ∧ a.2.1 = nI c ∧ a.2.2.1 = nI i ∧ ∃ j d : Nat, i + 1 ≤ j ∧ j ≤ n ∧ a.2.2.2.2 = nI j ∧ a.2.2.2.1 = nI d ∧ d + cntL x (l.drop j) = cntL x (l.drop (i + 1))) (fun (a : dS × Int32 × Int32 × Int32 × Int32) => (6 - a.2.2.2.2.toInt).toNat) ?_ _ ⟨rfl, rfl, rfl, i + 1, 0, by omega, by omega, nI_1 i, rfl, Nat.zero_add _⟩ _ (dF_gt ?_)
  · intro a ha k19 hk19
    obtain ⟨qb, y1, y2, y3, y4⟩ := a
    obtain ⟨g0, g1, g2, j, d, hj1, hj2, g4, g3, hcnt⟩ := ha
    replace g0 : qb = q3 := g0
    replace g1 : y1 = nI c := g1
    replace g2 : y2 = nI i := g2
    replace g4 : y4 = nI j := g4
    replace g3 : y3 = nI d := g3
    subst g0 g1 g2 g4 g3
    have tj : Int32.toInt (nI j) = (j : Int) := nI_toInt (by omega)
    show dOk (zX10_numberOf_19b (fun q x1 x2 => k4 (q, x1, x2)) (fun q x1 x2 x3 x4 => k19 (q, x1, x2, x3, x4)) qb (nI c) (nI i) (nI d) (nI j)) _
    have h50 : ∀ b : Nat, d + b + cntL x (l.drop (j + 1)) = cntL x (l.drop (i + 1)) → j < n → dOk (zX10_numberOf_50 (fun q x1 x2 => k4 (q, x1, x2)) (fun q x1 x2 x3 x4 => k19 (q, x1, x2, x3, x4)) qb (nI c) (nI i) (nI j) (nI b) (nI d)) (fun o => o.2 = qb ∧ o.1 = nI (nmL 0 l)) := by
      intro b hb hjn
      unfold zX10_numberOf_50
      rw [nI_add]
      have t1 : Int32.toInt (nI j + 1) = (j : Int) + 1 := ti_add tj (by decide) (by omega) (by omega)
      refine hk19 (qb, nI c, nI i, nI (d + b), nI j + 1) ⟨rfl, rfl, rfl, j + 1, d + b, by omega, by omega, nI_1 j, rfl, hb⟩ ?_
      show (6 - Int32.toInt (nI j + 1)).toNat < (6 - Int32.toInt (nI j)).toNat
      omega
    unfold zX10_numberOf_19b
    refine dOk_B (ok_size qb hT) (fun r2 q5 hr2 => ?_)
    have eq5 : q5 = qb := hr2.1
    have hr2' : Int32.toInt r2 = Int32.toInt (qb.1 2 29) := hr2.2.1
    subst eq5
    refine dOk_le rfl tj (fun c2 => ?_) (fun c2 => ?_)
    · refine dOk_B (ok_size q5 hT) (fun r4 q6 hr4 => ?_)
      have eq6 : q6 = q5 := hr4.1
      have hr4' : Int32.toInt r4 = Int32.toInt (q5.1 2 29) := hr4.2.1
      subst eq6
      have er4 : r4 = nI n := Int32.toInt_inj.mp (by rw [hr4', hn, nI_toInt (by omega)])
      have hz : l.drop j = [] := List.drop_eq_nil_of_le (by omega)
      rw [hz] at hcnt
      have hd : d = cntL x (l.drop (i + 1)) := hcnt
      have t1 : Int32.toInt (nI i + 1) = (i : Int) + 1 := ti_add ti (by decide) (by omega) (by omega)
      rw [er4, pk_sub hi, pk_mul, nI_add]
      refine hk4 (q6, nI (c * (n - i) + d), nI i + 1) ⟨rfl, i + 1, c * (n - i) + d, by omega, nI_1 i, rfl, ?_⟩ ?_
      · show nmL (c * (n - i) + d) (l.drop (i + 1)) = nmL 0 l
        rw [← hnm, hx, ← hlen, hd]
        rfl
      · show (6 - Int32.toInt (nI i + 1)).toNat < (6 - Int32.toInt (nI i)).toNat
        omega
    · obtain ⟨z, hz, hgz⟩ := drop_ex j (l := l) (by omega)
      rw [hz] at hcnt
      have hcnt2 : d + ((if z < x then 1 else 0) + cntL x (l.drop (j + 1))) = cntL x (l.drop (i + 1)) := hcnt
      have hz6 : z < 6 := by rw [← hgz]; exact h6 j (by omega)
      have hx6 : x < 6 := by rw [← hgx]; exact h6 i (by omega)
      refine dOk_G (dg_ok (by omega) (by omega)) (dOk_L (fun v8 e8 => ?_))
      rw [nI_clamp (by omega), hv j (by omega), hgz] at e8
      refine dOk_G (dg_ok (by omega) (by omega)) (dOk_L (fun v10 e10 => ?_))
      rw [nI_clamp (by omega), hv i (by omega), hgx] at e10
      subst e8 e10
      refine dOk_le (nI_toInt (n := x) (by omega)) (nI_toInt (n := z) (by omega)) (fun c3 => ?_) (fun c3 => ?_)
      · rw [if_neg (by omega)] at hcnt2
        exact h50 0 (by omega) (by omega)
      · rw [if_pos (by omega)] at hcnt2
        exact h50 1 (by omega) (by omega)
  · show (6 - Int32.toInt (nI i + 1)).toNat < 1000000000000
    have t1 : Int32.toInt (nI i + 1) = (i : Int) + 1 := ti_add ti (by decide) (by omega) (by omega)
    omega
