/-! the tape's bytes -/
/-- eight bits of a number, from k on -/
def bY (p : Int32) (k : Nat) : Int := p.toInt / 2 ^ k % 256
/-- a byte here and there -/
def tpR (c s : Int) : Prop := (0 ≤ c ∧ c < 128 ∧ s = c) ∨ (128 ≤ c ∧ c ≤ 255 ∧ s = c - 256)
theorem bY_n (x : Int32) (k : Nat) (hk : k = 0 ∨ k = 8 ∨ k = 16 ∨ k = 24) : bY x k = ((x.toBitVec.toNat / 2 ^ k % 256 : Nat) : Int) := by
  have hl := x.toBitVec.isLt
  have e : x.toInt = if 2 * x.toBitVec.toNat < 2 ^ 32 then (x.toBitVec.toNat : Int) else (x.toBitVec.toNat : Int) - ((2 ^ 32 : Nat) : Int) := by
    show x.toBitVec.toInt = _
    exact BitVec.toInt_eq_toNat_cond _
  unfold bY
  rw [e]
  by_cases c : 2 * x.toBitVec.toNat < 2 ^ 32
  · rw [if_pos c]
    rcases hk with r | r | r | r <;> subst r <;> omega
  · rw [if_neg c]
    rcases hk with r | r | r | r <;> subst r <;> omega
theorem by_c (x s : Int32) (n : Nat) (hn : (UInt32.mod (s.toUInt32 &&& Int32.toUInt32 31) 32).toBitVec.toNat = n) (hk : n = 0 ∨ n = 8 ∨ n = 16 ∨ n = 24) : Int32.toInt ((x.toUInt32 >>> (s.toUInt32 &&& Int32.toUInt32 31)).toInt32 &&& 255) = bY x n := by
  have e : ((x.toUInt32 >>> (s.toUInt32 &&& Int32.toUInt32 31)).toInt32 &&& 255 : Int32).toBitVec.toNat = x.toBitVec.toNat / 2 ^ n % 256 := by
    show ((x.toBitVec >>> (UInt32.mod (s.toUInt32 &&& Int32.toUInt32 31) 32).toBitVec) &&& (255 : Int32).toBitVec).toNat = _
    rw [BitVec.toNat_and, BitVec.ushiftRight_eq', BitVec.toNat_ushiftRight, hn, Nat.shiftRight_eq_div_pow]
    exact Nat.and_two_pow_sub_one_eq_mod _ 8
  have h : x.toBitVec.toNat / 2 ^ n % 256 < 256 := Nat.mod_lt _ (by decide)
  rw [bY_n x n hk, ← e]
  show BitVec.toInt _ = _
  rw [BitVec.toInt_eq_toNat_cond, if_pos (by
    have z : ((x.toUInt32 >>> (s.toUInt32 &&& Int32.toUInt32 31)).toInt32 &&& 255 : Int32).toBitVec.toNat < 256 := by rw [e]; exact h
    omega)]
theorem by_m (v : Int32) : Int32.toInt (vp_nar .byte ((Int32.toInt8 v).toInt32)) = Int.bmod v.toInt 256 := by
  show (Int8.toInt32 (Int32.toInt8 (Int8.toInt32 (Int32.toInt8 v)))).toInt = _
  rw [Int8.toInt_toInt32, Int32.toInt_toInt8, Int8.toInt_toInt32, Int32.toInt_toInt8]
  exact Int.bmod_bmod
theorem by_r (x s : Int32) (n : Nat) (hn : ((s &&& 31 : Int32).toBitVec.smod 32).toNat = n) : tpR (bY x n) (Int32.toInt (vp_nar .byte ((Int32.toInt8 (x >>> (s &&& 31))).toInt32))) := by
  rw [by_m, w_shr32 x (s &&& 31) hn]
  unfold tpR bY Int.bmod
  generalize x.toInt / 2 ^ n = y
  by_cases c : y % ((256 : Nat) : Int) < (((256 : Nat) : Int) + 1) / 2
  · rw [if_pos c]; left; omega
  · rw [if_neg c]; right; omega
theorem da_feedFour (q : dK) (p1 : Int32) (L : Nat) (hL : Int32.toInt (q.1 0 12) = (L : Int)) (h4 : L + 4 ≤ 400) : dAll (zX9_feedFour_s0 q p1) (fun (o : dK) => Int32.toInt (o.1 0 12) = (L : Int) + 4 ∧ (∀ i : Nat, i < L → o.1 46 i = q.1 46 i) ∧ ∀ t : Nat, t < 4 → Int32.toInt (o.1 46 (L + t)) = bY p1 (24 - 8 * t)) := by
  have d0 : Int32.toInt 0 = 0 := by decide
  have d24 : Int32.toInt 24 = 24 := by decide
  have d400 : Int32.toInt 400 = 400 := by decide
  have hs : ∀ m : Nat, m < 4 → (UInt32.mod ((Int32.ofNat (24 - 8 * m)).toUInt32 &&& Int32.toUInt32 31) 32).toBitVec.toNat = 24 - 8 * m := by decide
  unfold zX9_feedFour_s0 zX9_feedFour_s0_3
  refine dA_fix (fun (a : dK × Int32 × Int32) => a.2.1 = p1 ∧ ∃ m : Nat, m ≤ 4 ∧ a.2.2.toInt = 24 - 8 * (m : Int) ∧ Int32.toInt (a.1.1 0 12) = (L : Int) + m ∧ (∀ i : Nat, i < L → a.1.1 46 i = q.1 46 i) ∧ ∀ t : Nat, t < m → Int32.toInt (a.1.1 46 (L + t)) = bY p1 (24 - 8 * t)) ?_ dF _ ⟨rfl, 0, by decide, d24, by show Int32.toInt (q.1 0 12) = (L : Int) + 0; omega, fun _ _ => rfl, fun t ht => absurd ht (Nat.not_lt_zero _)⟩
  intro k3 hk3 a ha
  obtain ⟨qa, x1, x2⟩ := a
  obtain ⟨a0, m, a1, a2, a3, a4, a5⟩ := ha
  replace a0 : p1 = x1 := Eq.symm a0
  replace a2 : x2.toInt = 24 - 8 * (m : Int) := a2
  replace a3 : Int32.toInt (qa.1 0 12) = (L : Int) + m := a3
  replace a4 : ∀ i : Nat, i < L → qa.1 46 i = q.1 46 i := a4
  replace a5 : ∀ t : Nat, t < m → Int32.toInt (qa.1 46 (L + t)) = bY p1 (24 - 8 * t) := a5
  subst a0
  show dAll (zX9_feedFour_s0_3b (fun q x1 x2 => k3 (q, x1, x2)) qa p1 x2) _
  unfold zX9_feedFour_s0_3b
  refine dA_lt (fun c => ?_) (fun c => dA_le (fun c2 => ?_) (fun c2 => dA_L (fun v1 e1 => dA_G (fun _ => dA_L (fun q3 e3 => dA_L (fun q4 e4 => ?_))))))
  · have e : m = 4 := by omega
    subst e
    exact dA_some ⟨a3, a4, a5⟩
  · exfalso; omega
  · have nl := cl_eq (i := qa.1 0 12) (by omega)
    have t2 : Int32.toInt (x2 + (-8)) = x2.toInt + (-8) := ti_add rfl (by decide) (by omega) (by omega)
    have ex2 : x2 = Int32.ofNat (24 - 8 * m) := by
      apply Int32.toInt_inj.mp
      rw [a2]
      have hm : m = 0 ∨ m = 1 ∨ m = 2 ∨ m = 3 := by omega
      rcases hm with r | r | r | r <;> subst r <;> decide
    have hv : Int32.toInt (v1 &&& 255) = bY p1 (24 - 8 * m) := by
      rw [e1, ex2]
      exact by_c p1 _ _ (hs m (by omega)) (by omega)
    have w12 : q3.1 0 12 = qa.1 0 12 := by rw [e3]; rw [cui_o (by decide)]
    have w46 : q4.1 46 = q3.1 46 := by rw [e4]; exact cui_o (by decide)
    have t12 : Int32.toInt (q4.1 0 12) = (L : Int) + m + 1 := by rw [e4, cui_e, w12]; exact ti_add a3 (by decide) (by omega) (by omega)
    unfold zX9_feedFour_s0_43
    refine hk3 (q4, p1, x2 + (-8)) ⟨rfl, m + 1, by omega, by show Int32.toInt (x2 + (-8)) = _; omega, by show Int32.toInt (q4.1 0 12) = _; omega, fun i hi => ?_, fun t ht => ?_⟩
    · show q4.1 46 i = _
      rw [w46, e3, cui_n (by omega)]; exact a4 i hi
    · show Int32.toInt (q4.1 46 (L + t)) = _
      rw [w46, e3]
      by_cases ct : t = m
      · rw [show L + t = Int32.toNatClampNeg (qa.1 0 12) by omega, cui_e, hv, ct]
      · rw [cui_n (by omega)]; exact a5 t (by omega)
/-- the five numbers fed -/
def fV (p1 p2 p3 p4 p5 : Int32) (j : Nat) : Int32 := if j = 0 then p1 else if j = 1 then p2 else if j = 2 then p3 else if j = 3 then p4 else p5
theorem da_feed (q : dK) (p1 p2 p3 p4 p5 : Int32) (L : Nat) (hL : Int32.toInt (q.1 0 12) = (L : Int)) (h4 : L ≤ 400) : dAll (zX9_feed_s0 q p1 p2 p3 p4 p5) (fun (o : Int32 × dK) => (380 < L ∧ o.2 = q) ∨ (L ≤ 380 ∧ Int32.toInt (o.2.1 0 12) = (L : Int) + 20 ∧ (∀ i : Nat, i < L → o.2.1 46 i = q.1 46 i) ∧ ∀ k : Nat, k < 20 → Int32.toInt (o.2.1 46 (L + k)) = bY (fV p1 p2 p3 p4 p5 (k / 4)) (24 - 8 * (k % 4)))) := by
  have t20 : Int32.toInt (q.1 0 12 + 20) = (L : Int) + 20 := ti_add hL (by decide) (by omega) (by omega)
  have d400 : Int32.toInt 400 = 400 := by decide
  unfold zX9_feed_s0
  refine dA_le (fun c => ?_) (fun c => dA_some (Or.inl ⟨by omega, rfl⟩))
  refine dA_V (da_feedFour q p1 L hL (by omega)) (fun q3 z3 => ?_)
  refine dA_V (da_feedFour q3 p2 (L + 4) (by have := z3.1; omega) (by omega)) (fun q6 z6 => ?_)
  refine dA_V (da_feedFour q6 p3 (L + 8) (by have := z6.1; omega) (by omega)) (fun q9 z9 => ?_)
  refine dA_V (da_feedFour q9 p4 (L + 12) (by have := z9.1; omega) (by omega)) (fun q12 z12 => ?_)
  refine dA_V (da_feedFour q12 p5 (L + 16) (by have := z12.1; omega) (by omega)) (fun q15 z15 => dA_some (Or.inr ⟨by omega, by have := z15.1; show Int32.toInt (q15.1 0 12) = _; omega, fun i hi => ?_, fun k hk => ?_⟩))
  · show q15.1 46 i = _
    rw [z15.2.1 i (by omega), z12.2.1 i (by omega), z9.2.1 i (by omega), z6.2.1 i (by omega), z3.2.1 i (by omega)]
  · show Int32.toInt (q15.1 46 (L + k)) = _
    have hd : k = 4 * (k / 4) + k % 4 := by omega
    have hm : k % 4 < 4 := Nat.mod_lt _ (by decide)
    have hj : k / 4 = 0 ∨ k / 4 = 1 ∨ k / 4 = 2 ∨ k / 4 = 3 ∨ k / 4 = 4 := by omega
    rcases hj with r | r | r | r | r
    · rw [r, z15.2.1 _ (by omega), z12.2.1 _ (by omega), z9.2.1 _ (by omega), z6.2.1 _ (by omega), show L + k = L + k % 4 by omega]
      exact z3.2.2 _ hm
    · rw [r, z15.2.1 _ (by omega), z12.2.1 _ (by omega), z9.2.1 _ (by omega), show L + k = L + 4 + k % 4 by omega]
      exact z6.2.2 _ hm
    · rw [r, z15.2.1 _ (by omega), z12.2.1 _ (by omega), show L + k = L + 8 + k % 4 by omega]
      exact z9.2.2 _ hm
    · rw [r, z15.2.1 _ (by omega), show L + k = L + 12 + k % 4 by omega]
      exact z12.2.2 _ hm
    · rw [r, show L + k = L + 16 + k % 4 by omega]
      exact z15.2.2 _ hm
theorem dm_feed (q : dS) (p1 p2 p3 p4 p5 : Int32) (L : Nat) (hL : Int32.toInt (q.1 0 13) = (L : Int)) (h4 : L ≤ 400) : dAll (zX10_feed q p1 p2 p3 p4 p5) (fun (o : Int32 × dS) => (380 < L ∧ o.2 = q) ∨ (L ≤ 380 ∧ Int32.toInt (o.2.1 0 13) = (L : Int) + 20 ∧ (∀ i : Nat, i < L → o.2.1 7 i = q.1 7 i) ∧ ∀ k : Nat, k < 20 → tpR (bY (fV p1 p2 p3 p4 p5 (k / 4)) (24 - 8 * (k % 4))) (Int32.toInt (o.2.1 7 (L + k))))) := by
  have d0 : Int32.toInt 0 = 0 := by decide
  have d1 : Int32.toInt 1 = 1 := by decide
  have d4 : Int32.toInt 4 = 4 := by decide
  have d20 : Int32.toInt 20 = 20 := by decide
  have d400 : Int32.toInt 400 = 400 := by decide
  have t20 : Int32.toInt (q.1 0 13 + 20) = (L : Int) + 20 := ti_add hL d20 (by omega) (by omega)
  have hs : ∀ k : Nat, k < 20 → ((((24 - (8 * (Int32.ofNat k - Int32.ofNat k / 4 * 4 : Int32) : Int32) : Int32) &&& 31 : Int32)).toBitVec.smod 32).toNat = 24 - 8 * (k % 4) := by decide +kernel
  unfold zX10_feed
  refine dA_le (fun c => ?_) (fun c => dA_some (Or.inl ⟨by omega, rfl⟩))
  refine dA_L (fun q1 e1 => dA_L (fun q2 e2 => dA_L (fun q3 e3 => dA_L (fun q4 e4 => dA_L (fun q5 e5 => ?_)))))
  have r5 : ∀ j : Nat, ¬ j = 8 → q5.1 j = q.1 j := fun j hj => by rw [e5, dui_o hj, e4, dui_o hj, e3, dui_o hj, e2, dui_o hj, e1, dui_o hj]
  have f5 : ∀ j : Nat, j < 5 → q5.1 8 j = fV p1 p2 p3 p4 p5 j := by
    intro j hj
    have hc : j = 0 ∨ j = 1 ∨ j = 2 ∨ j = 3 ∨ j = 4 := by omega
    rcases hc with r | r | r | r | r <;> subst r
    · rw [e5, dui_n (by decide), e4, dui_n (by decide), e3, dui_n (by decide), e2, dui_n (by decide), e1, dui_e]; rfl
    · rw [e5, dui_n (by decide), e4, dui_n (by decide), e3, dui_n (by decide), e2, dui_e]; rfl
    · rw [e5, dui_n (by decide), e4, dui_n (by decide), e3, dui_e]; rfl
    · rw [e5, dui_n (by decide), e4, dui_e]; rfl
    · rw [e5, dui_e]; rfl
  have l5 : Int32.toInt (q5.1 0 13) = (L : Int) := by rw [r5 0 (by decide)]; exact hL
  have s5 : q5.1 7 = q.1 7 := r5 7 (by decide)
  clear e1 e2 e3 e4 e5 r5
  unfold zX10_feed_55
  refine dA_fix (fun (a : dS × Int32) => a.1.1 0 = q5.1 0 ∧ a.1.1 8 = q5.1 8 ∧ 0 ≤ a.2.toInt ∧ a.2.toInt ≤ 20 ∧ (∀ i : Nat, i < L → a.1.1 7 i = q.1 7 i) ∧ ∀ k : Nat, (k : Int) < a.2.toInt → tpR (bY (fV p1 p2 p3 p4 p5 (k / 4)) (24 - 8 * (k % 4))) (Int32.toInt (a.1.1 7 (L + k)))) ?_ dF _ ⟨rfl, rfl, by show 0 ≤ Int32.toInt 0; omega, by show Int32.toInt 0 ≤ 20; omega, fun i _ => by show q5.1 7 i = _; rw [s5], fun k hk => absurd hk (by show ¬ (k : Int) < Int32.toInt 0; omega)⟩
  intro k55 hk55 a ha
  obtain ⟨qa, x6⟩ := a
  obtain ⟨a0, a8, a2, a3, a4, a5⟩ := ha
  replace a0 : qa.1 0 = q5.1 0 := a0
  replace a8 : qa.1 8 = q5.1 8 := a8
  replace a2 : 0 ≤ x6.toInt := a2
  replace a3 : x6.toInt ≤ 20 := a3
  replace a4 : ∀ i : Nat, i < L → qa.1 7 i = q.1 7 i := a4
  replace a5 : ∀ k : Nat, (k : Int) < x6.toInt → tpR (bY (fV p1 p2 p3 p4 p5 (k / 4)) (24 - 8 * (k % 4))) (Int32.toInt (qa.1 7 (L + k))) := a5
  have la : Int32.toInt (qa.1 0 13) = (L : Int) := by rw [a0]; exact l5
  show dAll (zX10_feed_55b (fun q x6 => k55 (q, x6)) qa x6) _
  unfold zX10_feed_55b
  refine dA_le (fun c2 => ?_) (fun c2 => ?_)
  · refine dA_L (fun q1 e1 => dA_some (Or.inr ⟨by omega, ?_, fun i hi => ?_, fun k hk => ?_⟩))
    · show Int32.toInt (q1.1 0 13) = _
      rw [e1, dui_e]; exact ti_add la d20 (by omega) (by omega)
    · show q1.1 7 i = _
      rw [e1, dui_o (by decide)]; exact a4 i hi
    · show tpR _ (Int32.toInt (q1.1 7 (L + k)))
      rw [e1, dui_o (by decide)]; exact a5 k (by omega)
  · have n6 := cl_eq a2
    obtain ⟨k0, hk0⟩ : ∃ k : Nat, Int32.toNatClampNeg x6 = k := ⟨_, rfl⟩
    rw [hk0] at n6
    have ex : x6 = Int32.ofNat k0 := by
      apply Int32.toInt_inj.mp
      have z0 : Int32.toInt (Int32.ofNat k0) = (k0 : Int) := nI_toInt (n := k0) (by omega)
      omega
    have td : Int32.toInt (x6 / 4) = x6.toInt / 4 := ti_div rfl d4 a2 (by decide)
    have nd := cl_eq (i := x6 / 4) (by omega)
    have tk : Int32.toInt (qa.1 0 13 + x6) = (L : Int) + k0 := ti_add la n6.symm (by omega) (by omega)
    have nk := cl_eq (i := qa.1 0 13 + x6) (by omega)
    have t4 : Int32.toInt (x6 + 1) = x6.toInt + 1 := ti_add rfl d1 (by omega) (by omega)
    refine dA_G (fun _ => dA_L (fun v3 e3 => dA_L (fun v4 e4 => dA_G (fun _ => dA_L (fun q6 e6 => hk55 (q6, x6 + 1) ⟨by show q6.1 0 = _; rw [e6, dui_o (by decide)]; exact a0, by show q6.1 8 = _; rw [e6, dui_o (by decide)]; exact a8, by show 0 ≤ Int32.toInt (x6 + 1); omega, by show Int32.toInt (x6 + 1) ≤ 20; omega, fun i hi => ?_, fun k hk => ?_⟩)))))
    · show q6.1 7 i = _
      rw [e6, dui_n (by omega)]; exact a4 i hi
    · replace hk : (k : Int) < Int32.toInt (x6 + 1) := hk
      show tpR _ (Int32.toInt (q6.1 7 (L + k)))
      rw [e6]
      by_cases ck : (k : Int) < x6.toInt
      · rw [dui_n (by omega)]; exact a5 k ck
      · have ek : k = k0 := by omega
        rw [show L + k = Int32.toNatClampNeg (qa.1 0 13 + x6) by omega, dui_e, e4, e3, a8, f5 _ (by omega), ek, show Int32.toNatClampNeg (x6 / 4) = k0 / 4 by omega, ex]
        exact by_r _ _ _ (hs k0 (by omega))
