/-! gaps: both sides -/
def cnt (P : Nat → Bool) : Nat → Nat
  | 0 => 0
  | n + 1 => cnt P n + (if P n = true then 1 else 0)
theorem cnt_s (P : Nat → Bool) (n : Nat) : cnt P (n + 1) = cnt P n + (if P n = true then 1 else 0) := rfl
theorem cnt_le (P : Nat → Bool) : ∀ n : Nat, cnt P n ≤ n := by
  intro n
  induction n with
  | zero => exact Nat.le_refl _
  | succ n ih =>
    rw [cnt_s]
    by_cases c : P n = true
    · rw [if_pos c]; omega
    · rw [if_neg c]; omega
theorem cnt_0 {P : Nat → Bool} : ∀ n : Nat, cnt P n = 0 ↔ ¬ ∃ i : Nat, i < n ∧ P i = true := by
  intro n
  induction n with
  | zero => exact ⟨fun _ w => by obtain ⟨i, h, -⟩ := w; omega, fun _ => rfl⟩
  | succ n ih =>
    rw [cnt_s]
    by_cases c : P n = true
    · rw [if_pos c]
      exact ⟨fun h => by omega, fun h => absurd ⟨n, by omega, c⟩ h⟩
    · rw [if_neg c]
      constructor
      · intro h w
        obtain ⟨i, h1, h2⟩ := w
        by_cases ci : i = n
        · rw [ci] at h2; exact c h2
        · exact ih.mp (by omega) ⟨i, by omega, h2⟩
      · intro h
        have z := ih.mpr (fun w => by obtain ⟨i, h1, h2⟩ := w; exact h ⟨i, by omega, h2⟩)
        omega
/-- how many are less; how many lie from a up to below b; how many strictly between; how many are a -/
def lsC (f : Nat → Int) (n : Nat) (r : Int) : Nat := cnt (fun i => decide (f i < r)) n
def btC (f : Nat → Int) (n : Nat) (a b : Int) : Nat := cnt (fun i => decide (a < f i ∧ f i < b)) n
def eqC (f : Nat → Int) (n : Nat) (a : Int) : Nat := cnt (fun i => decide (f i = a)) n
theorem ls_bt (f : Nat → Int) {a b : Int} (h : a < b) : ∀ n : Nat, lsC f n b = lsC f n a + eqC f n a + btC f n a b := by
  intro n
  induction n with
  | zero => rfl
  | succ n ih =>
    have ih2 : cnt (fun i => decide (f i < b)) n = cnt (fun i => decide (f i < a)) n + cnt (fun i => decide (f i = a)) n + cnt (fun i => decide (a < f i ∧ f i < b)) n := ih
    show cnt _ n + _ = (cnt _ n + _) + (cnt _ n + _) + (cnt _ n + _)
    rw [ih2]
    have d : ∀ (p : Prop) [Decidable p], (if decide p = true then (1 : Nat) else 0) = if p then 1 else 0 := by
      intro p _
      by_cases c : p
      · rw [if_pos c, if_pos (decide_eq_true c)]
      · rw [if_neg c, if_neg (fun z => c (of_decide_eq_true z))]
    rw [d (f n < b), d (f n < a), d (f n = a), d (a < f n ∧ f n < b)]
    by_cases c1 : f n < a
    · rw [if_pos c1, if_pos (by omega : f n < b), if_neg (by omega : ¬ f n = a), if_neg (by omega : ¬ (a < f n ∧ f n < b))]; omega
    · by_cases c2 : f n = a
      · rw [if_neg c1, if_pos (by omega : f n < b), if_pos c2, if_neg (by omega : ¬ (a < f n ∧ f n < b))]; omega
      · by_cases c3 : f n < b
        · rw [if_neg c1, if_pos c3, if_neg c2, if_pos (by omega : a < f n ∧ f n < b)]; omega
        · rw [if_neg c1, if_neg c3, if_neg c2, if_neg (by omega : ¬ (a < f n ∧ f n < b))]; omega
/-- no rank twice -/
def DJ (n : Nat) (f : Nat → Int) : Prop := ∀ i j : Nat, i < n → j < n → f i = f j → i = j
theorem DJ.less {n m : Nat} {f : Nat → Int} (h : DJ n f) (hm : m ≤ n) : DJ m f := fun i j hi hj e => h i j (by omega) (by omega) e
theorem eqC_1 {f : Nat → Int} {p : Nat} : ∀ n : Nat, DJ n f → p < n → eqC f n (f p) = 1 := by
  intro n
  induction n with
  | zero => intro _ h; omega
  | succ n ih =>
    intro hd hp
    show cnt _ n + _ = 1
    by_cases c : p = n
    · have z : cnt (fun i => decide (f i = f p)) n = 0 := (cnt_0 n).mpr (fun w => by
        obtain ⟨i, h1, h2⟩ := w
        have e := hd i p (by omega) hp (of_decide_eq_true h2)
        omega)
      rw [z, c, if_pos (decide_eq_true rfl)]
    · have z : cnt (fun i => decide (f i = f p)) n = 1 := ih (hd.less (by omega)) (by omega)
      rw [z, if_neg (fun w => c (hd p n hp (by omega) (of_decide_eq_true w).symm))]
theorem lsC_all {f : Nat → Int} {b : Int} : ∀ n : Nat, (∀ i : Nat, i < n → f i < b) → lsC f n b = n := by
  intro n
  induction n with
  | zero => intro _; rfl
  | succ n ih =>
    intro h
    show cnt _ n + _ = n + 1
    have z : cnt (fun i => decide (f i < b)) n = n := ih (fun i hi => h i (by omega))
    rw [z, if_pos (decide_eq_true (h n (by omega)))]
def mnZ (a b : Int) : Int := if b < a then b else a
def mxZ (a b : Int) : Int := if a < b then b else a
/-- a gap above place p; gaps above the places below i; all -/
def gp1 (f : Nat → Int) (n p : Nat) : Nat := if btC f n (mnZ (f p) (f (p + 1))) (mxZ (f p) (f (p + 1))) = 0 then 0 else 1
def gpS (f : Nat → Int) (n : Nat) : Nat → Nat
  | 0 => 0
  | p + 1 => gpS f n p + gp1 f n p
def gpL (f : Nat → Int) (n : Nat) : Nat := if btC f n (f (n - 1)) 6 = 0 then 0 else 1
def gpT (f : Nat → Int) (n : Nat) : Nat := if n = 0 then 0 else gpS f n (n - 1) + gpL f n
theorem gp1_b (f : Nat → Int) (n p : Nat) : gp1 f n p ≤ 1 := by
  unfold gp1
  by_cases c : btC f n (mnZ (f p) (f (p + 1))) (mxZ (f p) (f (p + 1))) = 0
  · rw [if_pos c]; omega
  · rw [if_neg c]; omega
theorem gpS_b (f : Nat → Int) (n : Nat) : ∀ p : Nat, gpS f n p ≤ p := by
  intro p
  induction p with
  | zero => exact Nat.le_refl _
  | succ p ih =>
    have z := gp1_b f n p
    show gpS f n p + gp1 f n p ≤ p + 1
    omega
theorem gpL_b (f : Nat → Int) (n : Nat) : gpL f n ≤ 1 := by
  unfold gpL
  by_cases c : btC f n (f (n - 1)) 6 = 0
  · rw [if_pos c]; omega
  · rw [if_neg c]; omega
theorem gpT_b (f : Nat → Int) (n : Nat) : gpT f n ≤ n := by
  unfold gpT
  by_cases c : n = 0
  · rw [if_pos c]; omega
  · have z := gpS_b f n (n - 1)
    have y := gpL_b f n
    rw [if_neg c]; omega
theorem gp1_d {f : Nat → Int} {n p : Nat} (h : DJ n f) (hp : p + 1 < n) : ((lsC f n (f p) : Int) - (lsC f n (f (p + 1)) : Int) = 1 ∨ (lsC f n (f p) : Int) - (lsC f n (f (p + 1)) : Int) = -1) ↔ btC f n (mnZ (f p) (f (p + 1))) (mxZ (f p) (f (p + 1))) = 0 := by
  have hne : ¬ f p = f (p + 1) := fun z => by have := h p (p + 1) (by omega) hp z; omega
  unfold mnZ mxZ
  by_cases c : f (p + 1) < f p
  · rw [if_pos c, if_neg (by omega)]
    have z := ls_bt f c n
    rw [eqC_1 n h hp] at z
    omega
  · rw [if_neg c, if_pos (by omega)]
    have z := ls_bt f (show f p < f (p + 1) by omega) n
    rw [eqC_1 n h (show p < n by omega)] at z
    omega
theorem gpL_d {f : Nat → Int} {n : Nat} (h : DJ n f) (hn : 0 < n) (h6 : ∀ i : Nat, i < n → f i < 6) : ((n : Int) - 1 ≤ (lsC f n (f (n - 1)) : Int)) ↔ btC f n (f (n - 1)) 6 = 0 := by
  have z := ls_bt f (h6 (n - 1) (by omega)) n
  rw [eqC_1 n h (show n - 1 < n by omega), lsC_all n h6] at z
  omega
theorem mn_z (a b : Int32) : Int32.toInt (mnI a b) = mnZ (Int32.toInt a) (Int32.toInt b) := by
  unfold mnI mnZ
  by_cases c : b < a
  · rw [if_pos c, if_pos (Int32.lt_iff_toInt_lt.mp c)]
  · rw [if_neg c, if_neg (fun z => c (Int32.lt_iff_toInt_lt.mpr z))]
theorem mx_z (a b : Int32) : Int32.toInt (mxI a b) = mxZ (Int32.toInt a) (Int32.toInt b) := by
  unfold mxI mxZ
  by_cases c : a < b
  · rw [if_pos c, if_pos (Int32.lt_iff_toInt_lt.mp c)]
  · rw [if_neg c, if_neg (fun z => c (Int32.lt_iff_toInt_lt.mpr z))]
theorem c_between (q : dK) (a b : Int32) {n : Nat} (h2 : Int32.toInt (q.1 2 2) = (n : Int)) (hn : n ≤ 6) : dAll (zX8_anyBetween_s2 q a b) (fun o => o.2 = q ∧ ((o.1 = 1 ∧ ¬ btC (fun i => Int32.toInt (q.1 3 i)) n (Int32.toInt a) (Int32.toInt b) = 0) ∨ (o.1 = 0 ∧ btC (fun i => Int32.toInt (q.1 3 i)) n (Int32.toInt a) (Int32.toInt b) = 0))) := by
  have d0 : Int32.toInt 0 = 0 := by decide
  have d1 : Int32.toInt 1 = 1 := by decide
  unfold zX8_anyBetween_s2 zX8_anyBetween_s2_2
  refine dA_fix (fun (z : dK × Int32 × Int32 × Int32) => z.1 = q ∧ z.2.1 = a ∧ z.2.2.1 = b ∧ ∃ i : Nat, i ≤ n ∧ Int32.toInt z.2.2.2 = (i : Int) ∧ ∀ j : Nat, j < i → ¬ (Int32.toInt a < Int32.toInt (q.1 3 j) ∧ Int32.toInt (q.1 3 j) < Int32.toInt b)) ?_ dF _ ⟨rfl, rfl, rfl, 0, Nat.zero_le _, d0, fun j hj => absurd hj (Nat.not_lt_zero j)⟩
  intro k hk z hz
  obtain ⟨qa, x1, x2, x3⟩ := z
  obtain ⟨a1, a2, a2', i, hi, a3, a4⟩ := hz
  replace a1 : qa = q := a1
  replace a2 : x1 = a := a2
  replace a2' : x2 = b := a2'
  replace a3 : Int32.toInt x3 = (i : Int) := a3
  subst a1 a2 a2'
  show dAll (zX8_anyBetween_s2_2b (fun q x1 x2 x3 => k (q, x1, x2, x3)) qa x1 x2 x3) _
  unfold zX8_anyBetween_s2_2b zX8_anyBetween_s2_32
  refine dA_le (fun c => dA_some ⟨rfl, Or.inr ⟨rfl, (cnt_0 n).mpr (fun w => ?_)⟩⟩) (fun c => ?_)
  · obtain ⟨j, j1, j2⟩ := w
    exact a4 j (by omega) (of_decide_eq_true j2)
  have n3 : Int32.toNatClampNeg x3 = i := by have z := cl_eq (i := x3) (by omega); omega
  have t3 : Int32.toInt (x3 + 1 : Int32) = ((i + 1 : Nat) : Int) := by rw [ti_add a3 d1 (by omega) (by omega)]; omega
  rw [n3]
  have next : ¬ (Int32.toInt x1 < Int32.toInt (qa.1 3 i) ∧ Int32.toInt (qa.1 3 i) < Int32.toInt x2) → dAll (k (qa, x1, x2, x3 + 1)) (fun o => o.2 = qa ∧ ((o.1 = 1 ∧ ¬ btC (fun i => Int32.toInt (qa.1 3 i)) n (Int32.toInt x1) (Int32.toInt x2) = 0) ∨ (o.1 = 0 ∧ btC (fun i => Int32.toInt (qa.1 3 i)) n (Int32.toInt x1) (Int32.toInt x2) = 0))) := by
    intro hc
    refine hk (qa, x1, x2, x3 + 1) ⟨rfl, rfl, rfl, i + 1, by omega, t3, fun j hj => ?_⟩
    by_cases cj : j = i
    · rw [cj]; exact hc
    · exact a4 j (by omega)
  refine dA_G (fun _ => dA_L (fun v2 e2 => dA_le (fun c2 => next (fun w => by rw [e2] at c2; omega)) (fun c2 => dA_G (fun _ => dA_L (fun v4 e4 => dA_le (fun c4 => next (fun w => by rw [e4] at c4; omega)) (fun c4 => dA_some ⟨rfl, Or.inl ⟨rfl, fun w => ?_⟩⟩))))))
  rw [e2] at c2
  rw [e4] at c4
  exact (cnt_0 n).mp w ⟨i, by omega, decide_eq_true ⟨c2, c4⟩⟩
theorem c_b01 (r : Int32) : dAll (zX9_bit r) (fun o => (r = 0 ∧ o = 0) ∨ (¬ r = 0 ∧ o = 1)) := by
  unfold zX9_bit zX9_bit_9
  exact dA_if (fun c => dA_some (Or.inl ⟨c, rfl⟩)) (fun c => dA_some (Or.inr ⟨c, rfl⟩))
theorem c_gaps (q : dK) {n : Nat} (h2 : Int32.toInt (q.1 2 2) = (n : Int)) (hn : n ≤ 6) : dAll (zX8_gapCount_s2 q) (fun o => o.2 = q ∧ Int32.toInt o.1 = (gpT (fun i => Int32.toInt (q.1 3 i)) n : Int)) := by
  have d0 : Int32.toInt 0 = 0 := by decide
  have d1 : Int32.toInt 1 = 1 := by decide
  have d6 : Int32.toInt 6 = 6 := by decide
  unfold zX8_gapCount_s2 zX8_gapCount_s2_4
  refine dA_fix (fun (z : dK × Int32 × Int32) => z.1 = q ∧ ∃ p : Nat, (p + 1 ≤ n ∨ p = 0) ∧ Int32.toInt z.2.2 = (p : Int) ∧ Int32.toInt z.2.1 = (gpS (fun i => Int32.toInt (q.1 3 i)) n p : Int)) ?_ dF _ ⟨rfl, 0, Or.inr rfl, d0, d0⟩
  intro k hk z hz
  obtain ⟨qa, x1, x2⟩ := z
  obtain ⟨a1, p, hp, a2, a3⟩ := hz
  replace a1 : qa = q := a1
  replace a2 : Int32.toInt x2 = (p : Int) := a2
  replace a3 : Int32.toInt x1 = (gpS (fun i => Int32.toInt (q.1 3 i)) n p : Int) := a3
  subst a1
  have b := gpS_b (fun i => Int32.toInt (qa.1 3 i)) n p
  show dAll (zX8_gapCount_s2_4b (fun q x1 x2 => k (q, x1, x2)) qa x1 x2) _
  unfold zX8_gapCount_s2_4b zX8_gapCount_s2_97
  have t1 : Int32.toInt (x2 + 1 : Int32) = (p : Int) + 1 := ti_add a2 d1 (by omega) (by omega)
  refine dA_le (fun c => ?_) (fun c => ?_)
  · refine dA_if (fun c0 => dA_some ⟨rfl, ?_⟩) (fun c0 => ?_)
    · have n0 : n = 0 := by rw [c0] at h2; omega
      subst n0
      exact d0
    · have n0 : ¬ n = 0 := fun z => c0 (i_eq (by rw [h2, z]; exact d0.symm))
      have hpn : p = n - 1 := by omega
      have tn : Int32.toInt ((qa.1 2 2) - 1 : Int32) = (n : Int) - 1 := ti_sub h2 d1 (by omega) (by omega)
      have nn : Int32.toNatClampNeg ((qa.1 2 2) - 1 : Int32) = n - 1 := by have z := cl_eq (i := ((qa.1 2 2) - 1 : Int32)) (by omega); omega
      rw [nn]
      refine dA_G (fun _ => dA_L (fun v e => dA_B (c_between qa v 6 h2 hn) (fun r3 q5 w => ?_)))
      obtain ⟨w1, w2⟩ := w
      replace w1 : q5 = qa := w1
      subst w1
      rw [d6, e] at w2
      replace w2 : (r3 = 1 ∧ ¬ btC (fun i => Int32.toInt (q5.1 3 i)) n (Int32.toInt (q5.1 3 (n - 1))) 6 = 0) ∨ (r3 = 0 ∧ btC (fun i => Int32.toInt (q5.1 3 i)) n (Int32.toInt (q5.1 3 (n - 1))) 6 = 0) := w2
      refine dA_V (c_b01 r3) (fun r6 y => dA_some ⟨rfl, ?_⟩)
      show Int32.toInt (x1 + r6) = _
      unfold gpT gpL
      rw [if_neg n0, ← hpn]
      rw [← hpn] at w2
      show Int32.toInt (x1 + r6) = ((gpS (fun i => Int32.toInt (q5.1 3 i)) n p + (if btC (fun i => Int32.toInt (q5.1 3 i)) n (Int32.toInt (q5.1 3 p)) 6 = 0 then 0 else 1) : Nat) : Int)
      rcases w2 with ⟨w2, w3⟩ | ⟨w2, w3⟩
      · rcases y with ⟨y1, -⟩ | ⟨-, y2⟩
        · rw [w2] at y1; exact absurd y1 (by decide)
        · rw [if_neg w3, y2, ti_add a3 d1 (by omega) (by omega)]; omega
      · rcases y with ⟨-, y2⟩ | ⟨y1, -⟩
        · rw [if_pos w3, y2, ti_add a3 d0 (by omega) (by omega)]; omega
        · exact absurd w2 y1
  · have n2 : Int32.toNatClampNeg x2 = p := by have z := cl_eq (i := x2) (by omega); omega
    have n3 : Int32.toNatClampNeg (x2 + 1 : Int32) = p + 1 := by have z := cl_eq (i := (x2 + 1 : Int32)) (by omega); omega
    rw [n2, n3]
    refine dA_G (fun _ => dA_L (fun v9 e9 => dA_G (fun _ => dA_L (fun v11 e11 => dA_G (fun _ => dA_L (fun v13 e13 => dA_G (fun _ => dA_L (fun v15 e15 => ?_))))))))
    have ea : v13 = v9 := by rw [e13, e9]
    have eb : v15 = v11 := by rw [e15, e11]
    subst ea eb
    refine dA_B (c_between qa (mnI v13 v15) (mxI v13 v15) h2 hn) (fun r16 q18 w => ?_)
    obtain ⟨w1, w2⟩ := w
    replace w1 : q18 = qa := w1
    subst w1
    rw [mn_z, mx_z, e13, e15] at w2
    replace w2 : (r16 = 1 ∧ ¬ btC (fun i => Int32.toInt (q18.1 3 i)) n (mnZ (Int32.toInt (q18.1 3 p)) (Int32.toInt (q18.1 3 (p + 1)))) (mxZ (Int32.toInt (q18.1 3 p)) (Int32.toInt (q18.1 3 (p + 1)))) = 0) ∨ (r16 = 0 ∧ btC (fun i => Int32.toInt (q18.1 3 i)) n (mnZ (Int32.toInt (q18.1 3 p)) (Int32.toInt (q18.1 3 (p + 1)))) (mxZ (Int32.toInt (q18.1 3 p)) (Int32.toInt (q18.1 3 (p + 1)))) = 0) := w2
    refine dA_V (c_b01 r16) (fun r19 y => hk (q18, x1 + r19, x2 + 1) ⟨rfl, p + 1, by omega, by show Int32.toInt (x2 + 1) = _; omega, ?_⟩)
    show Int32.toInt (x1 + r19) = ((gpS (fun i => Int32.toInt (q18.1 3 i)) n p + (if btC (fun i => Int32.toInt (q18.1 3 i)) n (mnZ (Int32.toInt (q18.1 3 p)) (Int32.toInt (q18.1 3 (p + 1)))) (mxZ (Int32.toInt (q18.1 3 p)) (Int32.toInt (q18.1 3 (p + 1)))) = 0 then 0 else 1) : Nat) : Int)
    rcases w2 with ⟨w2, w3⟩ | ⟨w2, w3⟩
    · rcases y with ⟨y1, -⟩ | ⟨-, y2⟩
      · rw [w2] at y1; exact absurd y1 (by decide)
      · rw [if_neg w3, y2, ti_add a3 d1 (by omega) (by omega)]; omega
    · rcases y with ⟨-, y2⟩ | ⟨y1, -⟩
      · rw [if_pos w3, y2, ti_add a3 d0 (by omega) (by omega)]; omega
      · exact absurd w2 y1
theorem m_less (q : dS) (r : Int32) {n : Nat} (h2 : Int32.toInt (q.1 2 29) = (n : Int)) (hn : n ≤ 6) : dAll (zX10_lessThan q r) (fun o => o.2 = q ∧ Int32.toInt o.1 = (lsC (fun i => Int32.toInt (q.1 2 i)) n (Int32.toInt r) : Int)) := by
  have d0 : Int32.toInt 0 = 0 := by decide
  have d1 : Int32.toInt 1 = 1 := by decide
  unfold zX10_lessThan zX10_lessThan_4
  refine dA_fix (fun (z : dS × Int32 × Int32 × Int32) => z.1 = q ∧ z.2.1 = r ∧ ∃ i : Nat, i ≤ n ∧ Int32.toInt z.2.2.2 = (i : Int) ∧ Int32.toInt z.2.2.1 = (lsC (fun i => Int32.toInt (q.1 2 i)) i (Int32.toInt r) : Int)) ?_ dF _ ⟨rfl, rfl, 0, Nat.zero_le _, d0, d0⟩
  intro k hk z hz
  obtain ⟨qa, x1, x2, x3⟩ := z
  obtain ⟨a1, a2, i, hi, a3, a4⟩ := hz
  replace a1 : qa = q := a1
  replace a2 : x1 = r := a2
  replace a3 : Int32.toInt x3 = (i : Int) := a3
  replace a4 : Int32.toInt x2 = (lsC (fun i => Int32.toInt (q.1 2 i)) i (Int32.toInt r) : Int) := a4
  subst a1 a2
  have b := cnt_le (fun i => decide (Int32.toInt (qa.1 2 i) < Int32.toInt x1)) i
  have b2 : Int32.toInt x2 ≤ (i : Int) := by rw [a4]; exact Int.ofNat_le.mpr b
  have b3 : 0 ≤ Int32.toInt x2 := by rw [a4]; exact Int.natCast_nonneg _
  show dAll (zX10_lessThan_4b (fun q x1 x2 x3 => k (q, x1, x2, x3)) qa x1 x2 x3) _
  unfold zX10_lessThan_4b zX10_lessThan_30 zX10_size
  show dAll (if (qa.1 2 29) ≤ x3 then some (x2, qa) else _) _
  refine dA_le (fun c => dA_some ⟨rfl, ?_⟩) (fun c => dA_G (fun _ => dA_L (fun v e => ?_)))
  · have ei : i = n := by omega
    rw [← ei]; exact a4
  · have t3 : Int32.toInt (0 + x3 : Int32) = (i : Int) := by rw [ti_add d0 a3 (by omega) (by omega)]; omega
    have n3 : Int32.toNatClampNeg (0 + x3 : Int32) = i := by have z := cl_eq (i := (0 + x3 : Int32)) (by omega); omega
    rw [n3] at e
    replace e : v = qa.1 2 i := e
    have t4 : Int32.toInt (x3 + 1 : Int32) = ((i + 1 : Nat) : Int) := by rw [ti_add a3 d1 (by omega) (by omega)]; omega
    have hs : ∀ y : Int32, Int32.toInt y = (if decide (Int32.toInt (qa.1 2 i) < Int32.toInt x1) = true then 1 else 0) → Int32.toInt (x2 + y) = (lsC (fun i => Int32.toInt (qa.1 2 i)) (i + 1) (Int32.toInt x1) : Int) := by
      intro y hy
      have hy2 : 0 ≤ Int32.toInt y ∧ Int32.toInt y ≤ 1 := by
        rw [hy]
        by_cases c : decide (Int32.toInt (qa.1 2 i) < Int32.toInt x1) = true
        · rw [if_pos c]; decide
        · rw [if_neg c]; decide
      rw [ti_add rfl rfl (by omega) (by omega), a4, hy]
      show _ = ((cnt _ i + (if decide (Int32.toInt (qa.1 2 i) < Int32.toInt x1) = true then 1 else 0) : Nat) : Int)
      by_cases c : decide (Int32.toInt (qa.1 2 i) < Int32.toInt x1) = true
      · rw [if_pos c, if_pos c]; rfl
      · rw [if_neg c, if_neg c]; rfl
    refine dA_le (fun cv => hk (qa, x1, x2 + 0, x3 + 1) ⟨rfl, rfl, i + 1, by omega, t4, hs 0 ?_⟩) (fun cv => hk (qa, x1, x2 + 1, x3 + 1) ⟨rfl, rfl, i + 1, by omega, t4, hs 1 ?_⟩)
    · rw [e] at cv
      rw [if_neg (fun z => by have := of_decide_eq_true z; omega)]; exact d0
    · rw [e] at cv
      rw [if_pos (decide_eq_true cv)]; exact d1
theorem m_gaps (q : dS) {n : Nat} (h2 : Int32.toInt (q.1 2 29) = (n : Int)) (hn : n ≤ 6) (hd : DJ n (fun i => Int32.toInt (q.1 2 i))) (h6 : ∀ i : Nat, i < n → Int32.toInt (q.1 2 i) < 6) : dAll (zX10_gaps q) (fun o => o.2 = q ∧ Int32.toInt o.1 = (gpT (fun i => Int32.toInt (q.1 2 i)) n : Int)) := by
  have d0 : Int32.toInt 0 = 0 := by decide
  have d1 : Int32.toInt 1 = 1 := by decide
  have dm : Int32.toInt (-1) = -1 := by decide
  have loop : ∀ (y0 : Int32) (g : Nat), Int32.toInt y0 = (g : Int) → g ≤ 1 → (n = 0 → g = 0) → (0 < n → g = gpL (fun i => Int32.toInt (q.1 2 i)) n) → dAll (zX10_gaps_41 dF q y0 0) (fun o => o.2 = q ∧ Int32.toInt o.1 = (gpT (fun i => Int32.toInt (q.1 2 i)) n : Int)) := by
    intro y0 g hg hg1 hg0 hgn
    unfold zX10_gaps_41
    refine dA_fix (fun (z : dS × Int32 × Int32) => z.1 = q ∧ ∃ p : Nat, (p + 1 ≤ n ∨ p = 0) ∧ Int32.toInt z.2.2 = (p : Int) ∧ Int32.toInt z.2.1 = (g : Int) + (gpS (fun i => Int32.toInt (q.1 2 i)) n p : Int)) ?_ dF _ ⟨rfl, 0, Or.inr rfl, d0, by show Int32.toInt y0 = (g : Int) + ((0 : Nat) : Int); omega⟩
    intro k hk z hz
    obtain ⟨qa, x1, x2⟩ := z
    obtain ⟨a1, p, hp, a2, a3⟩ := hz
    replace a1 : qa = q := a1
    replace a2 : Int32.toInt x2 = (p : Int) := a2
    replace a3 : Int32.toInt x1 = (g : Int) + (gpS (fun i => Int32.toInt (q.1 2 i)) n p : Int) := a3
    subst a1
    have b := gpS_b (fun i => Int32.toInt (qa.1 2 i)) n p
    show dAll (zX10_gaps_41b (fun q x1 x2 => k (q, x1, x2)) qa x1 x2) _
    unfold zX10_gaps_41b zX10_size
    have t1 : Int32.toInt (x2 + 1 : Int32) = (p : Int) + 1 := ti_add a2 d1 (by omega) (by omega)
    show dAll (if (qa.1 2 29) ≤ (x2 + 1 : Int32) then some (x1, qa) else _) _
    refine dA_le (fun c => dA_some ⟨rfl, ?_⟩) (fun c => ?_)
    · show Int32.toInt x1 = _
      unfold gpT
      by_cases n0 : n = 0
      · rw [if_pos n0, a3]
        have p0 : p = 0 := by omega
        rw [p0, hg0 n0]; rfl
      · rw [if_neg n0, a3, hgn (by omega)]
        have p0 : p = n - 1 := by omega
        rw [p0]; omega
    · have t2 : Int32.toInt (0 + x2 : Int32) = (p : Int) := by rw [ti_add d0 a2 (by omega) (by omega)]; omega
      have t3 : Int32.toInt ((0 + x2 : Int32) + 1 : Int32) = (p : Int) + 1 := ti_add t2 d1 (by omega) (by omega)
      have n2 : Int32.toNatClampNeg (0 + x2 : Int32) = p := by have z := cl_eq (i := (0 + x2 : Int32)) (by omega); omega
      have n3 : Int32.toNatClampNeg ((0 + x2 : Int32) + 1 : Int32) = p + 1 := by have z := cl_eq (i := ((0 + x2 : Int32) + 1 : Int32)) (by omega); omega
      rw [n2, n3]
      refine dA_G (fun _ => dA_L (fun v5 e5 => dA_B (m_less qa v5 h2 hn) (fun r6 q8 w => ?_)))
      obtain ⟨w1, w2⟩ := w
      replace w1 : q8 = qa := w1
      subst w1
      replace w2 : Int32.toInt r6 = (lsC (fun i => Int32.toInt (q8.1 2 i)) n (Int32.toInt v5) : Int) := w2
      refine dA_G (fun _ => dA_L (fun v10 e10 => dA_B (m_less q8 v10 h2 hn) (fun r11 q13 y => ?_)))
      obtain ⟨y1, y2⟩ := y
      replace y1 : q13 = q8 := y1
      subst y1
      replace y2 : Int32.toInt r11 = (lsC (fun i => Int32.toInt (q13.1 2 i)) n (Int32.toInt v10) : Int) := y2
      rw [e5] at w2
      rw [e10] at y2
      have hgp := gp1_d hd (show p + 1 < n by omega)
      have l1 := cnt_le (fun i => decide (Int32.toInt (q13.1 2 i) < Int32.toInt (q13.1 2 p))) n
      have l2 := cnt_le (fun i => decide (Int32.toInt (q13.1 2 i) < Int32.toInt (q13.1 2 (p + 1)))) n
      have k1 : Int32.toInt r6 ≤ 6 ∧ 0 ≤ Int32.toInt r6 := by
        rw [w2]
        exact ⟨by have := Int.ofNat_le.mpr (Nat.le_trans l1 hn); exact this, Int.natCast_nonneg _⟩
      have k2 : Int32.toInt r11 ≤ 6 ∧ 0 ≤ Int32.toInt r11 := by
        rw [y2]
        exact ⟨by have := Int.ofNat_le.mpr (Nat.le_trans l2 hn); exact this, Int.natCast_nonneg _⟩
      have ts : Int32.toInt (r6 - r11) = Int32.toInt r6 - Int32.toInt r11 := ti_sub rfl rfl (by omega) (by omega)
      have hgp2 : (Int32.toInt r6 - Int32.toInt r11 = 1 ∨ Int32.toInt r6 - Int32.toInt r11 = -1) ↔ btC (fun i => Int32.toInt (q13.1 2 i)) n (mnZ (Int32.toInt (q13.1 2 p)) (Int32.toInt (q13.1 2 (p + 1)))) (mxZ (Int32.toInt (q13.1 2 p)) (Int32.toInt (q13.1 2 (p + 1)))) = 0 := by
        rw [w2, y2]; exact hgp
      unfold zX10_gaps_90 zX10_gaps_95
      have next : ∀ (y : Int32), Int32.toInt y = (gp1 (fun i => Int32.toInt (q13.1 2 i)) n p : Int) → dAll (k (q13, x1 + y, x2 + 1)) (fun o => o.2 = q13 ∧ Int32.toInt o.1 = (gpT (fun i => Int32.toInt (q13.1 2 i)) n : Int)) := by
        intro y hy
        have by1 := gp1_b (fun i => Int32.toInt (q13.1 2 i)) n p
        refine hk (q13, x1 + y, x2 + 1) ⟨rfl, p + 1, by omega, by show Int32.toInt (x2 + 1) = _; omega, ?_⟩
        show Int32.toInt (x1 + y) = (g : Int) + ((gpS (fun i => Int32.toInt (q13.1 2 i)) n p + gp1 (fun i => Int32.toInt (q13.1 2 i)) n p : Nat) : Int)
        rw [ti_add a3 hy (by omega) (by omega)]; omega
      have hz0 : (Int32.toInt r6 - Int32.toInt r11 = 1 ∨ Int32.toInt r6 - Int32.toInt r11 = -1) → dAll (k (q13, x1 + 0, x2 + 1)) (fun o => o.2 = q13 ∧ Int32.toInt o.1 = (gpT (fun i => Int32.toInt (q13.1 2 i)) n : Int)) := fun hh => next 0 (by unfold gp1; rw [if_pos (hgp2.mp hh)]; exact d0)
      refine dA_eq (fun _ c1 => hz0 (Or.inl (by omega))) (fun _ c1 => dA_eq (fun _ c2 => hz0 (Or.inr (by omega))) (fun _ c2 => next 1 ?_))
      unfold gp1
      rw [if_neg (fun w => by rcases hgp2.mpr w with z | z <;> omega)]; exact d1
  unfold zX10_gaps zX10_gaps_37 zX10_gaps_38 zX10_size
  show dAll (if (q.1 2 29) ≤ 0 then _ else _) _
  refine dA_le (fun c => loop 0 0 d0 (by decide) (fun _ => rfl) (fun h => by omega)) (fun c => ?_)
  have tn : Int32.toInt ((0 + (q.1 2 29) : Int32) - 1 : Int32) = (n : Int) - 1 := ti_sub (show Int32.toInt (0 + (q.1 2 29) : Int32) = (n : Int) by rw [ti_add d0 h2 (by omega) (by omega)]; omega) d1 (by omega) (by omega)
  have nn : Int32.toNatClampNeg ((0 + (q.1 2 29) : Int32) - 1 : Int32) = n - 1 := by have z := cl_eq (i := ((0 + (q.1 2 29) : Int32) - 1 : Int32)) (by omega); omega
  show dAll (dG (dg ((0 + (q.1 2 29) : Int32) - 1 : Int32) 5640) (dL (q.1 2 (Int32.toNatClampNeg ((0 + (q.1 2 29) : Int32) - 1 : Int32))) (fun v8 => dB (zX10_lessThan q v8) (fun r9 q11 => if ((q11.1 2 29) - 1 : Int32) ≤ r9 then zX10_gaps_41 dF q11 0 0 else zX10_gaps_41 dF q11 1 0)))) _
  rw [nn]
  refine dA_G (fun _ => dA_L (fun v8 e8 => dA_B (m_less q v8 h2 hn) (fun r9 q11 w => ?_)))
  obtain ⟨w1, w2⟩ := w
  replace w1 : q11 = q := w1
  subst w1
  replace w2 : Int32.toInt r9 = (lsC (fun i => Int32.toInt (q11.1 2 i)) n (Int32.toInt v8) : Int) := w2
  rw [e8] at w2
  have t1 : Int32.toInt ((q11.1 2 29) - 1 : Int32) = (n : Int) - 1 := ti_sub h2 d1 (by omega) (by omega)
  have hL : ((n : Int) - 1 ≤ Int32.toInt r9) ↔ btC (fun i => Int32.toInt (q11.1 2 i)) n (Int32.toInt (q11.1 2 (n - 1))) 6 = 0 := by
    rw [w2]; exact gpL_d hd (by omega) h6
  refine dA_le (fun c2 => loop 0 0 d0 (by decide) (fun _ => rfl) (fun _ => ?_)) (fun c2 => loop 1 1 d1 (by decide) (fun h => by omega) (fun _ => ?_))
  · unfold gpL
    rw [if_pos (hL.mp (by omega))]
  · unfold gpL
    rw [if_neg (fun z => by have := hL.mpr z; omega)]
theorem gpT_e {f g : Nat → Int} {n : Nat} (h : ∀ i : Nat, i < n → f i = g i) : gpT f n = gpT g n := by
  have hb : ∀ (a b : Int) (m : Nat), m ≤ n → btC f m a b = btC g m a b := by
    intro a b m
    induction m with
    | zero => intro _; rfl
    | succ m ih =>
      intro hm
      show cnt _ m + _ = cnt _ m + _
      have z : cnt (fun i => decide (a < f i ∧ f i < b)) m = cnt (fun i => decide (a < g i ∧ g i < b)) m := ih (by omega)
      rw [z]
      show _ + (if decide (a < f m ∧ f m < b) = true then 1 else 0) = _ + (if decide (a < g m ∧ g m < b) = true then 1 else 0)
      rw [h m (by omega)]
  have hs : ∀ p : Nat, p + 1 ≤ n → gpS f n p = gpS g n p := by
    intro p
    induction p with
    | zero => intro _; rfl
    | succ p ih =>
      intro hp
      show gpS f n p + gp1 f n p = gpS g n p + gp1 g n p
      rw [ih (by omega)]
      unfold gp1
      rw [h p (by omega), h (p + 1) (by omega), hb _ _ n (Nat.le_refl _)]
  unfold gpT
  by_cases c : n = 0
  · rw [if_pos c, if_pos c]
  · rw [if_neg c, if_neg c, hs (n - 1) (by omega)]
    unfold gpL
    rw [h (n - 1) (by omega), hb _ _ n (Nat.le_refl _)]
