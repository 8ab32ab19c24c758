/-! laysTables: the orders' half, and the whole -/
theorem lnV_6 {n p k j : Nat} (hn : n ≤ 6) (hp : p < facN n) (hk : k ≤ n) (hj : j < n) : lnV (rkS n 0 p) k j < 6 := by
  have h7 := facN_le n hn
  unfold lnV
  by_cases c : j < k
  · rw [if_pos c]
    exact rk_6 n (by omega) p (by omega) hp (k - 1 - j) (by omega) (by omega)
  · rw [if_neg c]
    exact rk_6 n (by omega) p (by omega) hp j (by omega) hj
theorem ok_tabO (q0 q : dS) (S F : List Nat) (n : Nat) (hS6 : 16 ∈ S) (hS7 : 17 ∈ S) (hS8 : 18 ∈ S) (hS9 : 19 ∈ S) (hT : TS q) (hF : dFr S F q0 q) (hn : (q.1 2 29).toInt = (n : Int)) (h37 : q.1 0 37 = nI (facN n)) (h38 : q.1 0 38 = nI (2 ^ n)) : dOk (zX10_laysTables_23 dF q 0) (fun o => TS o ∧ dFr S F q0 o ∧ tabs o n) := by
  have fs : 0 ≤ Int32.toInt (q.1 2 29) ∧ Int32.toInt (q.1 2 29) ≤ 6 := hT.1 2 29
  have hn6 : n ≤ 6 := by omega
  have h720 := facN_le n hn6
  have tF : Int32.toInt (nI (facN n)) = ((facN n : Nat) : Int) := nI_toInt (by omega)
  unfold zX10_laysTables_23
  refine dFix_ok (fun (a : dS × Int32) => TS a.1 ∧ dFr S F q0 a.1 ∧ dFr [16, 17, 19] [] q a.1 ∧ ∃ p : Nat, p ≤ facN n ∧ a.2 = nI p ∧ tab16 a.1 n p ∧ tab17 a.1 n p) (fun (a : dS × Int32) => (720 - a.2.toInt).toNat) ?_ _ ⟨hT, hF, dFr.rf, 0, Nat.zero_le _, rfl, (fun p j hp => absurd hp (Nat.not_lt_zero p)), (fun p k hp => absurd hp (Nat.not_lt_zero p))⟩ _ (dF_gt (by show (720 - Int32.toInt 0).toNat < 1000000000000; decide))
  intro a ha k23 hk23
  obtain ⟨qa, x1⟩ := a
  obtain ⟨hTa, hFa, hG, p, hp, e1, h16, h17⟩ := ha
  replace hTa : TS qa := hTa
  replace hFa : dFr S F q0 qa := hFa
  replace hG : dFr [16, 17, 19] [] q qa := hG
  replace e1 : x1 = nI p := e1
  replace h16 : tab16 qa n p := h16
  replace h17 : tab17 qa n p := h17
  subst e1
  have tp : Int32.toInt (nI p) = (p : Int) := nI_toInt (by omega)
  have an : (qa.1 2 29).toInt = (n : Int) := by rw [hG.1 2 (by decide) (by decide)]; exact hn
  have a37 : qa.1 0 37 = nI (facN n) := by rw [hG.2 37 (by decide)]; exact h37
  have a38 : qa.1 0 38 = nI (2 ^ n) := by rw [hG.2 38 (by decide)]; exact h38
  show dOk (zX10_laysTables_23b (fun q x1 => k23 (q, x1)) qa (nI p)) _
  unfold zX10_laysTables_23b
  rw [a37]
  refine dOk_le tF tp (fun c => ?_) (fun c => ?_)
  · have e : p = facN n := by omega
    subst e
    exact ok_tabH q0 qa S F n hS8 hTa hFa an a37 a38 h16 h17
  have hpn : p < facN n := by omega
  refine dOk_V (ok_laysOrder2 qa n p hTa an hpn) (fun q3 hr => ?_)
  have hT3 : TS q3 := hr.1
  have hF3 : dFr [16] [] qa q3 := hr.2.1
  have hin : ∀ j : Nat, j < n → q3.1 16 (6 * p + j) = nI ((rkS n 0 p).getD j 0) := hr.2.2.1
  have hout : ∀ j : Nat, (j < 6 * p ∨ 6 * p + 6 ≤ j) → q3.1 16 j = qa.1 16 j := hr.2.2.2
  have hG3 : dFr [16, 17, 19] [] q q3 := hG.t hF3 (by decide) (by decide)
  have hFb3 : dFr S F q0 q3 := hFa.t hF3 (by intro a ha; rw [List.mem_singleton] at ha; rw [ha]; exact hS6) (by intro a ha; cases ha)
  have b16 : tab16 q3 n (p + 1) := by
    intro p2 j hp2 hj
    rcases Nat.lt_or_ge p2 p with z | z
    · rw [hout (6 * p2 + j) (by omega)]; exact h16 p2 j z hj
    · have e : p2 = p := by omega
      subst e
      exact hin j hj
  have b17 : tab17 q3 n p := by
    intro p2 k hp2 h1 h2
    rw [hF3.1 17 (by decide) (by decide)]; exact h17 p2 k hp2 h1 h2
  unfold zX10_laysTables_38
  refine dFix_ok (fun (a : dS × Int32 × Int32) => TS a.1 ∧ dFr S F q0 a.1 ∧ dFr [16, 17, 19] [] q a.1 ∧ a.2.1 = nI p ∧ ∃ k : Nat, 1 ≤ k ∧ k ≤ n + 1 ∧ a.2.2 = nI k ∧ tab16 a.1 n (p + 1) ∧ tab17 a.1 n p ∧ (∀ k2 : Nat, 1 ≤ k2 → k2 < k → k2 ≤ n → a.1.1 17 (7 * p + k2) = nI (obL n p k2))) (fun (a : dS × Int32 × Int32) => (8 - a.2.2.toInt).toNat) ?_ _ ⟨hT3, hFb3, hG3, rfl, 1, by omega, by omega, rfl, b16, b17, fun k2 h1 h2 => absurd h2 (by omega)⟩ _ (dF_gt (by show (8 - Int32.toInt 1).toNat < 1000000000000; decide))
  intro b hb k38 hk38
  obtain ⟨qb, y1, y2⟩ := b
  obtain ⟨hTb, hFb, hGb, g1, k, hk1, hk2, g2, c16, c17, bk⟩ := hb
  replace hTb : TS qb := hTb
  replace hFb : dFr S F q0 qb := hFb
  replace hGb : dFr [16, 17, 19] [] q qb := hGb
  replace g1 : y1 = nI p := g1
  replace g2 : y2 = nI k := g2
  replace c16 : tab16 qb n (p + 1) := c16
  replace c17 : tab17 qb n p := c17
  replace bk : ∀ k2 : Nat, 1 ≤ k2 → k2 < k → k2 ≤ n → qb.1 17 (7 * p + k2) = nI (obL n p k2) := bk
  subst g1 g2
  have bn : (qb.1 2 29).toInt = (n : Int) := by rw [hGb.1 2 (by decide) (by decide)]; exact hn
  have tk : Int32.toInt (nI k) = (k : Int) := nI_toInt (by omega)
  show dOk (zX10_laysTables_38b (fun q x1 => k23 (q, x1)) (fun q x1 x2 => k38 (q, x1, x2)) qb (nI p) (nI k)) _
  unfold zX10_laysTables_38b
  refine dOk_B (ok_size qb hTb) (fun r1 q4 hr1 => ?_)
  have eq4 : q4 = qb := hr1.1
  have hr1' : Int32.toInt r1 = Int32.toInt (qb.1 2 29) := hr1.2.1
  subst eq4
  refine dOk_lt rfl tk (fun c2 => ?_) (fun c2 => ?_)
  · have t1 : Int32.toInt (nI p + 1) = (p : Int) + 1 := ti_add tp (by decide) (by omega) (by omega)
    refine hk23 (q4, nI p + 1) ⟨hTb, hFb, hGb, p + 1, by omega, nI_1 p, c16, ?_⟩ ?_
    · intro p2 k2 hp2 h1 h2
      rcases Nat.lt_or_ge p2 p with z | z
      · exact c17 p2 k2 z h1 h2
      · have e : p2 = p := by omega
        subst e
        exact bk k2 h1 (by omega) h2
    · show (720 - Int32.toInt (nI p + 1)).toNat < (720 - Int32.toInt (nI p)).toNat
      omega
  have hkn : k ≤ n := by omega
  unfold zX10_laysTables_48
  refine dFix_ok (fun (a : dS × Int32 × Int32 × Int32) => TS a.1 ∧ dFr S F q0 a.1 ∧ dFr [16, 17, 19] [] q a.1 ∧ a.2.1 = nI p ∧ a.2.2.1 = nI k ∧ tab16 a.1 n (p + 1) ∧ tab17 a.1 n p ∧ (∀ k2 : Nat, 1 ≤ k2 → k2 < k → k2 ≤ n → a.1.1 17 (7 * p + k2) = nI (obL n p k2)) ∧ ∃ i : Nat, i ≤ n ∧ a.2.2.2 = nI i ∧ (∀ j : Nat, j < i → a.1.1 19 j = nI (lnV (rkS n 0 p) k j))) (fun (a : dS × Int32 × Int32 × Int32) => (6 - a.2.2.2.toInt).toNat) ?_ _ ⟨hTb, hFb, hGb, rfl, rfl, c16, c17, bk, 0, by omega, rfl, fun j hj => absurd hj (Nat.not_lt_zero j)⟩ _ (dF_gt (by show (6 - Int32.toInt 0).toNat < 1000000000000; decide))
  intro d hd k48 hk48
  obtain ⟨qc, z1, z2, z3⟩ := d
  obtain ⟨hTc, hFc, hGc, m1, m2, d16, d17, dk, i, hi, m3, hln⟩ := hd
  replace hTc : TS qc := hTc
  replace hFc : dFr S F q0 qc := hFc
  replace hGc : dFr [16, 17, 19] [] q qc := hGc
  replace m1 : z1 = nI p := m1
  replace m2 : z2 = nI k := m2
  replace m3 : z3 = nI i := m3
  replace d16 : tab16 qc n (p + 1) := d16
  replace d17 : tab17 qc n p := d17
  replace dk : ∀ k2 : Nat, 1 ≤ k2 → k2 < k → k2 ≤ n → qc.1 17 (7 * p + k2) = nI (obL n p k2) := dk
  replace hln : ∀ j : Nat, j < i → qc.1 19 j = nI (lnV (rkS n 0 p) k j) := hln
  subst m1 m2 m3
  have cn : (qc.1 2 29).toInt = (n : Int) := by rw [hGc.1 2 (by decide) (by decide)]; exact hn
  have ti : Int32.toInt (nI i) = (i : Int) := nI_toInt (by omega)
  show dOk (zX10_laysTables_48b (fun q x1 => k23 (q, x1)) (fun q x1 x2 => k38 (q, x1, x2)) (fun q x1 x2 x3 => k48 (q, x1, x2, x3)) qc (nI p) (nI k) (nI i)) _
  have h83 : ∀ y : Nat, y < n → (rkS n 0 p).getD y 0 = lnV (rkS n 0 p) k i → i < n → dOk (zX10_laysTables_83 (fun q x1 => k23 (q, x1)) (fun q x1 x2 => k38 (q, x1, x2)) (fun q x1 x2 x3 => k48 (q, x1, x2, x3)) qc (nI p) (nI k) (nI i) (nI y) (6 * nI p) (nI i)) (fun o => TS o ∧ dFr S F q0 o ∧ tabs o n) := by
    intro y hy hyv hin2
    unfold zX10_laysTables_83
    have eix : (6 * nI p + nI y : Int32) = nI (6 * p + y) := by rw [show (6 : Int32) = nI 6 from rfl, pk_mul, nI_add]
    rw [eix]
    have tix : Int32.toInt (nI (6 * p + y)) = ((6 * p + y : Nat) : Int) := nI_toInt (by omega)
    refine dOk_G (dg_ok (by omega) (by omega)) (dOk_L (fun v2 e2 => ?_))
    rw [nI_clamp (by omega), d16 p y (by omega) hy, hyv] at e2
    refine dOk_G (dg_ok (by omega) (by omega)) (dOk_L (fun q5 e5 => ?_))
    rw [nI_clamp (by omega)] at e5
    have t1 : Int32.toInt (nI i + 1) = (i : Int) + 1 := ti_add ti (by decide) (by omega) (by omega)
    have h6 := lnV_6 hn6 hpn hkn hin2
    have tv : Int32.toInt v2 = ((lnV (rkS n 0 p) k i : Nat) : Int) := by rw [e2]; exact nI_toInt (by omega)
    refine hk48 (q5, nI p, nI k, nI i + 1) ⟨?_, ?_, ?_, rfl, rfl, ?_, ?_, ?_, i + 1, by omega, nI_1 i, ?_⟩ ?_
    · show TS q5
      rw [e5]; exact ts_set hTc (by decide) (show (-2147483648 : Int) ≤ Int32.toInt v2 by omega) (show Int32.toInt v2 ≤ 2147483647 by omega)
    · show dFr S F q0 q5
      rw [e5]; exact hFc.i hS9 (by decide)
    · show dFr [16, 17, 19] [] q q5
      rw [e5]; exact hGc.i (by decide) (by decide)
    · show tab16 q5 n (p + 1)
      intro p2 j h1 h2
      rw [e5, dui_o (by decide)]; exact d16 p2 j h1 h2
    · show tab17 q5 n p
      intro p2 j h1 h2 h3
      rw [e5, dui_o (by decide)]; exact d17 p2 j h1 h2 h3
    · show ∀ k2 : Nat, 1 ≤ k2 → k2 < k → k2 ≤ n → q5.1 17 (7 * p + k2) = nI (obL n p k2)
      intro k2 h1 h2 h3
      rw [e5, dui_o (by decide)]; exact dk k2 h1 h2 h3
    · show ∀ j : Nat, j < i + 1 → q5.1 19 j = nI (lnV (rkS n 0 p) k j)
      intro j hj
      rw [e5]
      by_cases cj : j = i
      · subst cj
        rw [dui_e, e2]
      · rw [dui_n (by omega)]; exact hln j (by omega)
    · show (6 - Int32.toInt (nI i + 1)).toNat < (6 - Int32.toInt (nI i)).toNat
      omega
  unfold zX10_laysTables_48b
  refine dOk_B (ok_size qc hTc) (fun r2 q6 hr2 => ?_)
  have eq6 : q6 = qc := hr2.1
  have hr2' : Int32.toInt r2 = Int32.toInt (qc.1 2 29) := hr2.2.1
  subst eq6
  refine dOk_le rfl ti (fun c3 => ?_) (fun c3 => ?_)
  · have ein : i = n := by omega
    subst ein
    refine dOk_B (ok_numberOf2 q6 i (lnL (rkS i 0 p) k i 0) hTc cn (lnL_len _ _ i 0) (fun j hj => by rw [lnL_get _ _ i 0 j hj, Nat.zero_add]; exact lnV_6 hn6 hpn hkn hj) (fun j hj => by rw [lnL_get _ _ i 0 j hj, Nat.zero_add]; exact hln j hj)) (fun r4 q7 hr4 => ?_)
    have eq7 : q7 = q6 := hr4.1
    have er4 : r4 = nI (obL i p k) := hr4.2
    subst eq7 er4
    have eix : (7 * nI p + nI k : Int32) = nI (7 * p + k) := by rw [show (7 : Int32) = nI 7 from rfl, pk_mul, nI_add]
    rw [eix]
    have tix : Int32.toInt (nI (7 * p + k)) = ((7 * p + k : Nat) : Int) := nI_toInt (by omega)
    refine dOk_G (dg_ok (by omega) (by omega)) (dOk_L (fun q8 e8 => ?_))
    rw [nI_clamp (by omega)] at e8
    have hob := (ob_lt hn6 hpn hk1 hkn).1
    have tv : Int32.toInt (nI (obL i p k)) = ((obL i p k : Nat) : Int) := nI_toInt (by omega)
    have t1 : Int32.toInt (nI k + 1) = (k : Int) + 1 := ti_add tk (by decide) (by omega) (by omega)
    refine hk38 (q8, nI p, nI k + 1) ⟨?_, ?_, ?_, rfl, k + 1, by omega, by omega, nI_1 k, ?_, ?_, ?_⟩ ?_
    · show TS q8
      rw [e8]; exact ts_set hTc (by decide) (show (0 : Int) ≤ Int32.toInt (nI (obL i p k)) by omega) (show Int32.toInt (nI (obL i p k)) ≤ 719 by omega)
    · show dFr S F q0 q8
      rw [e8]; exact hFc.i hS7 (by decide)
    · show dFr [16, 17, 19] [] q q8
      rw [e8]; exact hGc.i (by decide) (by decide)
    · show tab16 q8 i (p + 1)
      intro p2 j h1 h2
      rw [e8, dui_o (by decide)]; exact d16 p2 j h1 h2
    · show tab17 q8 i p
      intro p2 j h1 h2 h3
      rw [e8, dui_n (by omega)]; exact d17 p2 j h1 h2 h3
    · show ∀ k2 : Nat, 1 ≤ k2 → k2 < k + 1 → k2 ≤ i → q8.1 17 (7 * p + k2) = nI (obL i p k2)
      intro k2 h1 h2 h3
      rw [e8]
      by_cases ck : k2 = k
      · subst ck
        exact dui_e
      · rw [dui_n (by omega)]; exact dk k2 h1 (by omega) h3
    · show (8 - Int32.toInt (nI k + 1)).toNat < (8 - Int32.toInt (nI k)).toNat
      omega
  · refine dOk_le tk ti (fun c4 => ?_) (fun c4 => ?_)
    · exact h83 i (by omega) (by unfold lnV; rw [if_neg (by omega)]) (by omega)
    · have es : nI k - 1 - nI i = nI (k - 1 - i) := by
        rw [show (1 : Int32) = nI 1 from rfl, pk_sub (by omega), pk_sub (by omega)]
      rw [es]
      exact h83 (k - 1 - i) (by omega) (by unfold lnV; rw [if_pos (by omega)]) (by omega)
