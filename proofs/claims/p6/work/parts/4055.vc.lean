/-! laysTables lays obL and hbN -/
def tab16 (o : dS) (n m : Nat) : Prop := ∀ p j : Nat, p < m → j < n → o.1 16 (6 * p + j) = nI ((rkS n 0 p).getD j 0)
def tab17 (o : dS) (n m : Nat) : Prop := ∀ p k : Nat, p < m → 1 ≤ k → k ≤ n → o.1 17 (7 * p + k) = nI (obL n p k)
def tab18 (o : dS) (n m : Nat) : Prop := ∀ h k : Nat, h < m → 1 ≤ k → k ≤ n → o.1 18 (7 * h + k) = nI (hbN h k n)
def tabs (o : dS) (n : Nat) : Prop := o.1 0 37 = nI (facN n) ∧ o.1 0 38 = nI (2 ^ n) ∧ tab16 o n (facN n) ∧ tab17 o n (facN n) ∧ tab18 o n (2 ^ n)
theorem ob_lt {n p k : Nat} (hn : n ≤ 6) (hp : p < facN n) (h1 : 1 ≤ k) (hk : k ≤ n) : obL n p k < facN n ∧ obL n (obL n p k) k = p := ob_inv hn hp h1 hk
/-- the heads' half -/
theorem ok_tabH (q0 q : dS) (S F : List Nat) (n : Nat) (hS : 18 ∈ S) (hT : TS q) (hF : dFr S F q0 q) (hn : (q.1 2 29).toInt = (n : Int)) (h37 : q.1 0 37 = nI (facN n)) (h38 : q.1 0 38 = nI (2 ^ n)) (h16 : tab16 q n (facN n)) (h17 : tab17 q n (facN n)) : dOk (zX10_laysTables_121 dF q 0) (fun o => TS o ∧ dFr S F q0 o ∧ tabs o n) := by
  have fs : 0 ≤ Int32.toInt (q.1 2 29) ∧ Int32.toInt (q.1 2 29) ≤ 6 := hT.1 2 29
  have hn6 : n ≤ 6 := by omega
  have h64 : 2 ^ n ≤ 2 ^ 6 := Nat.pow_le_pow_right (by decide) hn6
  have t2n : Int32.toInt (nI (2 ^ n)) = ((2 ^ n : Nat) : Int) := nI_toInt (by omega)
  unfold zX10_laysTables_121
  refine dFix_ok (fun (a : dS × Int32) => TS a.1 ∧ dFr S F q0 a.1 ∧ dFr [18] [] q a.1 ∧ ∃ h : Nat, h ≤ 2 ^ n ∧ a.2 = nI h ∧ tab18 a.1 n h) (fun (a : dS × Int32) => (64 - a.2.toInt).toNat) ?_ _ ⟨hT, hF, dFr.rf, 0, Nat.zero_le _, rfl, fun p k hp => absurd hp (Nat.not_lt_zero p)⟩ _ (dF_gt (by show (64 - Int32.toInt 0).toNat < 1000000000000; decide))
  intro a ha k121 hk121
  obtain ⟨qa, x1⟩ := a
  obtain ⟨hTa, hFa, hG, h, hh, e1, h18⟩ := ha
  replace hTa : TS qa := hTa
  replace hFa : dFr S F q0 qa := hFa
  replace hG : dFr [18] [] q qa := hG
  replace e1 : x1 = nI h := e1
  replace h18 : tab18 qa n h := h18
  subst e1
  have th : Int32.toInt (nI h) = (h : Int) := nI_toInt (by omega)
  have a38 : qa.1 0 38 = nI (2 ^ n) := by rw [hG.2 38 (by decide)]; exact h38
  show dOk (zX10_laysTables_121b (fun q x1 => k121 (q, x1)) qa (nI h)) _
  unfold zX10_laysTables_121b
  rw [a38]
  refine dOk_le t2n th (fun c => dOk_some ⟨hTa, hFa, ?_⟩) (fun c => ?_)
  · have e : h = 2 ^ n := by omega
    subst e
    refine ⟨by rw [hG.2 37 (by decide)]; exact h37, a38, ?_, ?_, h18⟩
    · intro p j hp hj
      rw [hG.1 16 (by decide) (by decide)]; exact h16 p j hp hj
    · intro p k hp h1 hk
      rw [hG.1 17 (by decide) (by decide)]; exact h17 p k hp h1 hk
  have h64' : h < 64 := by omega
  unfold zX10_laysTables_131
  refine dFix_ok (fun (a : dS × Int32 × Int32) => TS a.1 ∧ dFr S F q0 a.1 ∧ dFr [18] [] q a.1 ∧ a.2.1 = nI h ∧ ∃ k : Nat, 1 ≤ k ∧ k ≤ n + 1 ∧ a.2.2 = nI k ∧ tab18 a.1 n h ∧ (∀ k2 : Nat, 1 ≤ k2 → k2 < k → k2 ≤ n → a.1.1 18 (7 * h + k2) = nI (hbN h k2 n))) (fun (a : dS × Int32 × Int32) => (8 - a.2.2.toInt).toNat) ?_ _ ⟨hTa, hFa, hG, rfl, 1, by omega, by omega, rfl, h18, fun k2 h1 h2 => absurd h2 (by omega)⟩ _ (dF_gt (by show (8 - Int32.toInt 1).toNat < 1000000000000; decide))
  intro b hb k131 hk131
  obtain ⟨qb, y1, y2⟩ := b
  obtain ⟨hTb, hFb, hGb, g1, k, hk1, hk2, g2, b18, bk⟩ := hb
  replace hTb : TS qb := hTb
  replace hFb : dFr S F q0 qb := hFb
  replace hGb : dFr [18] [] q qb := hGb
  replace g1 : y1 = nI h := g1
  replace g2 : y2 = nI k := g2
  replace b18 : tab18 qb n h := b18
  replace bk : ∀ k2 : Nat, 1 ≤ k2 → k2 < k → k2 ≤ n → qb.1 18 (7 * h + k2) = nI (hbN h k2 n) := bk
  subst g1 g2
  have bn : (qb.1 2 29).toInt = (n : Int) := by rw [hGb.1 2 (by decide) (by decide)]; exact hn
  have tk : Int32.toInt (nI k) = (k : Int) := nI_toInt (by omega)
  show dOk (zX10_laysTables_131b (fun q x1 => k121 (q, x1)) (fun q x1 x2 => k131 (q, x1, x2)) qb (nI h) (nI k)) _
  unfold zX10_laysTables_131b
  refine dOk_B (ok_size qb hTb) (fun r1 q3 hr => ?_)
  have eq3 : q3 = qb := hr.1
  have hr1 : Int32.toInt r1 = Int32.toInt (qb.1 2 29) := hr.2.1
  subst eq3
  refine dOk_lt rfl tk (fun c2 => ?_) (fun c2 => ?_)
  · have t1 : Int32.toInt (nI h + 1) = (h : Int) + 1 := ti_add th (by decide) (by omega) (by omega)
    refine hk121 (q3, nI h + 1) ⟨hTb, hFb, hGb, h + 1, by omega, nI_1 h, ?_⟩ ?_
    · intro p k2 hp h1 h2
      rcases Nat.lt_or_ge p h with z | z
      · exact b18 p k2 z h1 h2
      · have e : p = h := by omega
        subst e
        exact bk k2 h1 (by omega) h2
    · show (64 - Int32.toInt (nI h + 1)).toNat < (64 - Int32.toInt (nI h)).toNat
      omega
  refine dOk_B (ok_headsBehind2 q3 n h k hTb bn h64' hk1 (by omega)) (fun r4 q6 hr4 => ?_)
  have eq6 : q6 = q3 := hr4.1
  have er4 : r4 = nI (hbN h k n) := hr4.2
  subst eq6 er4
  have eix : (7 * nI h + nI k : Int32) = nI (7 * h + k) := by rw [show (7 : Int32) = nI 7 from rfl, pk_mul, nI_add]
  rw [eix]
  have tix : Int32.toInt (nI (7 * h + k)) = ((7 * h + k : Nat) : Int) := nI_toInt (by omega)
  refine dOk_G (dg_ok (by omega) (by omega)) (dOk_L (fun q8 e8 => ?_))
  rw [nI_clamp (by omega)] at e8
  have hlt := hbN_lt h k n
  have tv : Int32.toInt (nI (hbN h k n)) = ((hbN h k n : Nat) : Int) := nI_toInt (by omega)
  have t1 : Int32.toInt (nI k + 1) = (k : Int) + 1 := ti_add tk (by decide) (by omega) (by omega)
  refine hk131 (q8, nI h, nI k + 1) ⟨?_, ?_, ?_, rfl, k + 1, by omega, by omega, nI_1 k, ?_, ?_⟩ ?_
  · show TS q8
    rw [e8]; exact ts_set hTb (by decide) (show (0 : Int) ≤ Int32.toInt (nI (hbN h k n)) by omega) (show Int32.toInt (nI (hbN h k n)) ≤ 63 by omega)
  · show dFr S F q0 q8
    rw [e8]; exact hFb.i hS (by decide)
  · show dFr [18] [] q q8
    rw [e8]; exact hGb.i (by decide) (by decide)
  · show tab18 q8 n h
    intro p k2 hp h1 h2
    rw [e8, dui_n (by omega)]; exact b18 p k2 hp h1 h2
  · show ∀ k2 : Nat, 1 ≤ k2 → k2 < k + 1 → k2 ≤ n → q8.1 18 (7 * h + k2) = nI (hbN h k2 n)
    intro k2 h1 h2 h3
    rw [e8]
    by_cases ck : k2 = k
    · subst ck
      exact dui_e
    · rw [dui_n (by omega)]; exact bk k2 h1 (by omega) h3
  · show (8 - Int32.toInt (nI k + 1)).toNat < (8 - Int32.toInt (nI k)).toNat
    omega
