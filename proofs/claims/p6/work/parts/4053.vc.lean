/-! laysOrder lays the ranks rkS -/
theorem facN_pos : ∀ m : Nat, 0 < facN m := by
  intro m
  induction m with
  | zero => exact Nat.zero_lt_one
  | succ m ih => exact Nat.mul_pos (Nat.succ_pos m) ih
theorem facN_le : ∀ n : Nat, n ≤ 6 → facN n ≤ 720 := by
  intro n hn
  have h : ∀ k : Nat, k < 7 → facN k ≤ 720 := by decide
  exact h n (by omega)
theorem selN_in {u f s r : Nat} (h : u.testBit r = true) : selN u (f + 1) s r = selN u f s (r + 1) := by
  show (if u.testBit r = true then selN u f s (r + 1) else if s = 0 then r else selN u f (s - 1) (r + 1)) = _
  rw [if_pos h]
theorem selN_z {u f r : Nat} (h : u.testBit r = false) : selN u (f + 1) 0 r = r := by
  show (if u.testBit r = true then selN u f 0 (r + 1) else if 0 = 0 then r else selN u f (0 - 1) (r + 1)) = _
  rw [h, if_neg (by decide), if_pos rfl]
theorem selN_d {u f s r : Nat} (h : u.testBit r = false) (hs : 0 < s) : selN u (f + 1) s r = selN u f (s - 1) (r + 1) := by
  show (if u.testBit r = true then selN u f s (r + 1) else if s = 0 then r else selN u f (s - 1) (r + 1)) = _
  rw [h, if_neg (by decide), if_neg (by omega)]
theorem drop_cons : ∀ (i : Nat) {l : List Nat} {x : Nat} {xs : List Nat}, l.drop i = x :: xs → l.drop (i + 1) = xs ∧ l.getD i 0 = x := by
  intro i
  induction i with
  | zero =>
    intro l x xs h
    have h2 : l = x :: xs := h
    subst h2
    exact ⟨rfl, rfl⟩
  | succ i ih =>
    intro l x xs h
    cases l with
    | nil =>
      have h2 : ([] : List Nat) = x :: xs := h
      cases h2
    | cons y ys =>
      have h2 : ys.drop i = x :: xs := h
      exact ih h2
theorem ok_laysOrder2 (q : dS) (n p : Nat) (hT : TS q) (hn : (q.1 2 29).toInt = (n : Int)) (hp : p < facN n) : dOk (zX10_laysOrder q (nI p)) (fun (o : dS) => TS o ∧ dFr [16] [] q o ∧ (∀ j : Nat, j < n → o.1 16 (6 * p + j) = nI ((rkS n 0 p).getD j 0)) ∧ (∀ j : Nat, (j < 6 * p ∨ 6 * p + 6 ≤ j) → o.1 16 j = q.1 16 j)) := by
  have fs : 0 ≤ Int32.toInt (q.1 2 29) ∧ Int32.toInt (q.1 2 29) ≤ 6 := hT.1 2 29
  have hn6 : n ≤ 6 := by omega
  have hp7 : p < 720 := Nat.lt_of_lt_of_le hp (facN_le n hn6)
  unfold zX10_laysOrder zX10_laysOrder_7
  refine dFix_ok (fun (a : dS × Int32 × Int32 × Int32 × Int32) => TS a.1 ∧ dFr [16] [] q a.1 ∧ a.2.1 = nI p ∧ ∃ i u s : Nat, i ≤ n ∧ a.2.2.2.2 = nI i ∧ u < 64 ∧ a.2.2.1 = nI u ∧ usB u 6 = i ∧ a.2.2.2.1 = nI s ∧ s < facN (n - i) ∧ rkS (n - i) u s = (rkS n 0 p).drop i ∧ (∀ j : Nat, j < i → a.1.1 16 (6 * p + j) = nI ((rkS n 0 p).getD j 0)) ∧ (∀ j : Nat, (j < 6 * p ∨ 6 * p + 6 ≤ j) → a.1.1 16 j = q.1 16 j)) (fun (a : dS × Int32 × Int32 × Int32 × Int32) => (6 - a.2.2.2.2.toInt).toNat) ?_ _ ?_ _ (dF_gt ?_)
  · intro a ha k7 hk7
    obtain ⟨qa, x1, x2, x3, x4⟩ := a
    obtain ⟨hT, hF, e1, i, u, s, hi, e4, hu, e2, hus, e3, hs, hrk, hlo, hout⟩ := ha
    replace hT : TS qa := hT
    replace hF : dFr [16] [] q qa := hF
    replace e1 : x1 = nI p := e1
    replace e2 : x2 = nI u := e2
    replace e3 : x3 = nI s := e3
    replace e4 : x4 = nI i := e4
    replace hlo : ∀ j : Nat, j < i → qa.1 16 (6 * p + j) = nI ((rkS n 0 p).getD j 0) := hlo
    replace hout : ∀ j : Nat, (j < 6 * p ∨ 6 * p + 6 ≤ j) → qa.1 16 j = q.1 16 j := hout
    have w29 : Int32.toInt (qa.1 2 29) = Int32.toInt (q.1 2 29) := by rw [hF.1 2 (by decide) (by decide)]
    subst e1 e2 e3 e4
    have ti : Int32.toInt (nI i) = (i : Int) := nI_toInt (by omega)
    show dOk (zX10_laysOrder_7b (fun q x1 x2 x3 x4 => k7 (q, x1, x2, x3, x4)) qa (nI p) (nI u) (nI s) (nI i)) _
    unfold zX10_laysOrder_7b
    refine dOk_B (ok_size qa hT) (fun r1 q3 hr => ?_)
    have eq3 : q3 = qa := hr.1
    have hr1 : Int32.toInt r1 = Int32.toInt (qa.1 2 29) := hr.2.1
    subst eq3
    refine dOk_le rfl ti (fun c => dOk_some ⟨hT, hF, ?_, hout⟩) (fun c => ?_)
    · have hin : i = n := by omega
      subst hin
      exact hlo
    refine dOk_B (ok_size q3 hT) (fun r4 q6 hr4 => ?_)
    have eq6 : q6 = q3 := hr4.1
    have hr4' : Int32.toInt r4 = Int32.toInt (q3.1 2 29) := hr4.2.1
    subst eq6
    obtain ⟨m, hm⟩ : ∃ m : Nat, n - i = m + 1 := ⟨n - i - 1, by omega⟩
    have t1 : Int32.toInt (r4 - 1) = Int32.toInt r4 - 1 := ti_sub rfl (by decide) (by omega) (by omega)
    have t2 : Int32.toInt (r4 - 1 - nI i) = Int32.toInt r4 - 1 - (i : Int) := ti_sub t1 ti (by omega) (by omega)
    refine dOk_V (ok_allOrders (r4 - 1 - nI i) (by omega)) (fun r7 hr7 => ?_)
    have hr7 := (show ((Int32.toInt (r4 - 1 - nI i) ≤ 1 ∧ Int32.toInt r7 = 1) ∨ (Int32.toInt (r4 - 1 - nI i) = 2 ∧ Int32.toInt r7 = 2) ∨ (Int32.toInt (r4 - 1 - nI i) = 3 ∧ Int32.toInt r7 = 6) ∨ (Int32.toInt (r4 - 1 - nI i) = 4 ∧ Int32.toInt r7 = 24) ∨ (Int32.toInt (r4 - 1 - nI i) = 5 ∧ Int32.toInt r7 = 120) ∨ (Int32.toInt (r4 - 1 - nI i) = 6 ∧ Int32.toInt r7 = 720)) from hr7)
    have hm6 : m < 6 := by omega
    have hfm : ∀ k : Nat, k < 6 → ((k ≤ 1 ∧ facN k = 1) ∨ (k = 2 ∧ facN k = 2) ∨ (k = 3 ∧ facN k = 6) ∨ (k = 4 ∧ facN k = 24) ∨ (k = 5 ∧ facN k = 120)) := by decide
    have hfm := hfm m hm6
    have e7t : Int32.toInt r7 = (facN m : Int) := by omega
    have hf7 : facN m ≤ 720 := facN_le m (by omega)
    have hf0 : 0 < facN m := facN_pos m
    have e7 : r7 = nI (facN m) := Int32.toInt_inj.mp (by rw [e7t, nI_toInt (by omega)])
    rw [hm] at hs hrk
    have hs7 : s < (m + 1) * facN m := hs
    have hsd : s / facN m < m + 1 := (Nat.div_lt_iff_lt_mul hf0).2 hs7
    have hsm : s % facN m < facN m := Nat.mod_lt _ hf0
    have hs720 : s < 2 ^ 31 := by
      have := facN_le (m + 1) (by omega)
      omega
    refine dOk_G (dnz_ok (by omega)) (dOk_G (dnz_ok (by omega)) ?_)
    rw [e7, pk_rem hs720 hf0 (by omega), pk_div hs720 hf0 (by omega)]
    have hrk2 : (rkS n 0 p).drop i = selN u 7 (s / facN m) 0 :: rkS m (u ||| 2 ^ selN u 7 (s / facN m) 0) (s % facN m) := hrk.symm
    obtain ⟨hd1, hd2⟩ := drop_cons i hrk2
    generalize s / facN m = s0 at *
    generalize s % facN m = rest at *
    unfold zX10_laysOrder_44
    refine dFix_ok (fun (a : dS × Int32 × Int32 × Int32 × Int32 × Int32 × Int32) => a.1 = q6 ∧ a.2.1 = nI p ∧ a.2.2.1 = nI u ∧ a.2.2.2.1 = nI rest ∧ a.2.2.2.2.1 = nI i ∧ ∃ r t : Nat, r ≤ 6 ∧ a.2.2.2.2.2.2 = nI r ∧ a.2.2.2.2.2.1 = nI t ∧ t + r = s0 + usB u r ∧ selN u (7 - r) t r = selN u 7 s0 0) (fun (a : dS × Int32 × Int32 × Int32 × Int32 × Int32 × Int32) => (6 - a.2.2.2.2.2.2.toInt).toNat) ?_ _ ?_ _ (dF_gt ?_)
    · intro a ha k44 hk44
      obtain ⟨qb, y1, y2, y3, y4, y6, y7⟩ := a
      obtain ⟨g1, g2, g3, g4, g5, r, t, hr6, g7, g6, hsum, hsel⟩ := ha
      replace g1 : qb = q6 := g1
      replace g2 : y1 = nI p := g2
      replace g3 : y2 = nI u := g3
      replace g4 : y3 = nI rest := g4
      replace g5 : y4 = nI i := g5
      replace g7 : y7 = nI r := g7
      replace g6 : y6 = nI t := g6
      subst g1 g2 g3 g4 g5 g7 g6
      have hub := usB_le u r
      have hr5 : r ≤ 5 := by
        rcases Nat.lt_or_ge r 6 with z | z
        · omega
        · have : r = 6 := by omega
          subst this
          omega
      have tr : Int32.toInt (nI r) = (r : Int) := nI_toInt (by omega)
      have tt : Int32.toInt (nI t) = (t : Int) := nI_toInt (by omega)
      have tr1 : Int32.toInt (nI r + 1) = (r : Int) + 1 := ti_add tr (by decide) (by omega) (by omega)
      have e_r1 : nI r + 1 = nI (r + 1) := nI_1 r
      have e7r : 7 - r = (6 - r) + 1 := by omega
      have e6r : 7 - (r + 1) = 6 - r := by omega
      rw [e7r] at hsel
      show dOk (zX10_laysOrder_44b _ (fun q x1 x2 x3 x4 x6 x7 => k44 (q, x1, x2, x3, x4, x6, x7)) qb (nI p) (nI u) (nI rest) (nI i) (nI t) (nI r)) _
      have h74 : ∀ y : Nat, ((y = 1 ∧ u.testBit r = false ∧ 0 < t) ∨ (y = 0 ∧ u.testBit r = true)) → dOk (zX10_laysOrder_74 (fun q x1 x2 x3 x4 => k7 (q, x1, x2, x3, x4)) (fun q x1 x2 x3 x4 x6 x7 => k44 (q, x1, x2, x3, x4, x6, x7)) qb (nI p) (nI u) (nI rest) (nI i) (nI r) (nI y) (nI t)) (fun (o : dS) => TS o ∧ dFr [16] [] q o ∧ (∀ j : Nat, j < n → o.1 16 (6 * p + j) = nI ((rkS n 0 p).getD j 0)) ∧ (∀ j : Nat, (j < 6 * p ∨ 6 * p + 6 ≤ j) → o.1 16 j = q.1 16 j)) := by
        intro y hy
        unfold zX10_laysOrder_74
        have hyt : y ≤ t := by omega
        rw [pk_sub hyt]
        refine hk44 (qb, nI p, nI u, nI rest, nI i, nI (t - y), nI r + 1) ⟨rfl, rfl, rfl, rfl, rfl, r + 1, t - y, by omega, e_r1, rfl, ?_, ?_⟩ ?_
        · show t - y + (r + 1) = s0 + (usB u r + (if u.testBit r then 1 else 0))
          rcases hy with ⟨h1, h2, h3⟩ | ⟨h1, h2⟩
          · rw [h2, if_neg (by decide)]; omega
          · rw [h2, if_pos rfl]; omega
        · show selN u (7 - (r + 1)) (t - y) (r + 1) = selN u 7 s0 0
          rw [e6r, ← hsel]
          rcases hy with ⟨h1, h2, h3⟩ | ⟨h1, h2⟩
          · rw [selN_d h2 h3, h1]
          · rw [selN_in h2, h1, Nat.sub_zero]
        · show (6 - Int32.toInt (nI r + 1)).toNat < (6 - Int32.toInt (nI r)).toNat
          omega
      have h58 : (u.testBit r = true ∨ 0 < t) → dOk (zX10_laysOrder_58 (fun q x1 x2 x3 x4 => k7 (q, x1, x2, x3, x4)) (fun q x1 x2 x3 x4 x6 x7 => k44 (q, x1, x2, x3, x4, x6, x7)) qb (nI p) (nI u) (nI rest) (nI i) (nI t) (nI r)) (fun (o : dS) => TS o ∧ dFr [16] [] q o ∧ (∀ j : Nat, j < n → o.1 16 (6 * p + j) = nI ((rkS n 0 p).getD j 0)) ∧ (∀ j : Nat, (j < 6 * p ∨ 6 * p + 6 ≤ j) → o.1 16 j = q.1 16 j)) := by
        intro hh
        unfold zX10_laysOrder_58
        refine dOk_V (isIn_eq hu (by omega)) (fun o ho => ?_)
        rcases ho with ⟨rfl, hb⟩ | ⟨rfl, hb⟩
        · rw [if_neg (by decide)]
          exact h74 0 (Or.inr ⟨rfl, hb⟩)
        · rw [if_pos rfl]
          refine h74 1 (Or.inl ⟨rfl, hb, ?_⟩)
          rcases hh with hh | hh
          · rw [hb] at hh; cases hh
          · exact hh
      unfold zX10_laysOrder_44b
      refine dOk_V (isIn_eq hu (by omega)) (fun o ho => ?_)
      rcases ho with ⟨rfl, hb⟩ | ⟨rfl, hb⟩
      · rw [if_neg (by decide)]
        exact h58 (Or.inl hb)
      · rw [if_pos rfl]
        refine dOk_le (A := (t : Int)) (B := 0) tt (by decide) (fun c2 => ?_) (fun c2 => h58 (Or.inr (by omega)))
        have ht0 : t = 0 := by omega
        subst ht0
        have hrs : selN u 7 s0 0 = r := by rw [← hsel, selN_z hb]
        rw [hrs] at hd1 hd2
        have eix : (6 * nI p + nI i : Int32) = nI (6 * p + i) := by rw [show (6 : Int32) = nI 6 from rfl, pk_mul, nI_add]
        rw [eix]
        have tix : Int32.toInt (nI (6 * p + i)) = ((6 * p + i : Nat) : Int) := nI_toInt (by omega)
        refine dOk_G (dg_ok (by omega) (by omega)) (dOk_L (fun q4 e4 => ?_))
        rw [nI_clamp (by omega)] at e4
        obtain ⟨o1, o2, o3⟩ := or_bit u hu r (by omega) hb
        have t5 : Int32.toInt (nI i + 1) = (i : Int) + 1 := ti_add ti (by decide) (by omega) (by omega)
        have em : n - (i + 1) = m := by omega
        refine hk7 (q4, nI p, nI u ||| (1 <<< (nI r &&& 31)), nI rest, nI i + 1) ⟨?_, ?_, rfl, i + 1, u ||| 2 ^ r, rest, by omega, nI_1 i, o2, o1, ?_, rfl, ?_, ?_, ?_, ?_⟩ ?_
        · show TS q4
          rw [e4]; exact ts_set hT (by decide) (show (0 : Int) ≤ Int32.toInt (nI r) by omega) (show Int32.toInt (nI r) ≤ 5 by omega)
        · show dFr [16] [] q q4
          rw [e4]; exact hF.i (by decide) (by decide)
        · show usB (u ||| 2 ^ r) 6 = i + 1
          rw [o3, hus]
        · show rest < facN (n - (i + 1))
          rw [em]; exact hsm
        · show rkS (n - (i + 1)) (u ||| 2 ^ r) rest = (rkS n 0 p).drop (i + 1)
          rw [em]; exact hd1.symm
        · show ∀ j : Nat, j < i + 1 → q4.1 16 (6 * p + j) = nI ((rkS n 0 p).getD j 0)
          intro j hj
          rw [e4]
          by_cases cj : j = i
          · subst cj
            rw [dui_e, hd2]
          · rw [dui_n (by omega)]
            exact hlo j (by omega)
        · show ∀ j : Nat, (j < 6 * p ∨ 6 * p + 6 ≤ j) → q4.1 16 j = q.1 16 j
          intro j hj
          rw [e4, dui_n (by omega)]
          exact hout j hj
        · show (6 - Int32.toInt (nI i + 1)).toNat < (6 - Int32.toInt (nI i)).toNat
          omega
    · exact ⟨rfl, rfl, rfl, rfl, rfl, 0, s0, by omega, rfl, rfl, rfl, rfl⟩
    · show (6 - Int32.toInt 0).toNat < 1000000000000
      decide
  · exact ⟨hT, dFr.rf, rfl, 0, 0, p, by omega, rfl, by decide, rfl, by decide, rfl, hp, rfl, (fun j hj => absurd hj (Nat.not_lt_zero j)), (fun j _ => rfl)⟩
  · show (6 - Int32.toInt 0).toNat < 1000000000000
    decide
