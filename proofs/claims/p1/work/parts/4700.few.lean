/-! few(): the chances of just j slips, grip by grip -/
def kz_T (a b : Int64) (k : Nat) (f : Nat → Int64) : Nat → Int64 := fun j => if j < k then (if j = 0 then f 0 * a / 10 + 0 else f j * a / 10 + f (j - 1) * b / 10) else f j
def kz_G (a b : Int64) (k : Nat) (f : Nat → Int64) : Nat → (Nat → Int64)
  | 0 => f
  | g + 1 => kz_T a b k (kz_G a b k f g)
def kz_sum (f : Nat → Int64) : Nat → Int64
  | 0 => 0
  | j + 1 => kz_sum f j + f j
def kz_F0 : Nat → Int64 := fun j => if j = 0 then 1000000000000 else 0
def kz_few (a b : Int64) (k n : Nat) : Int64 := kz_sum (kz_G a b k kz_F0 n) k
theorem kz_T_congr {a b : Int64} {k : Nat} {f g : Nat → Int64} (h : ∀ j, j < k → f j = g j) : ∀ j, j < k → kz_T a b k f j = kz_T a b k g j := by
  intro j hj
  simp only [kz_T, if_pos hj]
  by_cases h0 : j = 0
  · subst h0; rw [if_pos rfl, if_pos rfl, h 0 hj]
  · rw [if_neg h0, if_neg h0, h j hj, h (j - 1) (by omega)]
theorem kz_G_congr {a b : Int64} {k : Nat} {f g : Nat → Int64} (h : ∀ j, j < k → f j = g j) : ∀ n j, j < k → kz_G a b k f n j = kz_G a b k g n j := by
  intro n
  induction n with
  | zero => exact h
  | succ n ih => exact kz_T_congr ih
theorem kz_sum_congr {f g : Nat → Int64} : ∀ k, (∀ j, j < k → f j = g j) → kz_sum f k = kz_sum g k := by
  intro k
  induction k with
  | zero => intro _; rfl
  | succ k ih => intro h; simp only [kz_sum]; rw [ih (fun j hj => h j (by omega)), h k (by omega)]
theorem kz_few_of {a b : Int64} {k n : Nat} {f : Nat → Int64} (h : ∀ j, j < k → f j = kz_F0 j) : kz_sum (kz_G a b k f n) k = kz_few a b k n := kz_sum_congr k (kz_G_congr h n)
/-- the class: how far a grip is worked in, from the many slips down -/
def kz_M (a b : Int64) (k : Nat) (f : Nat → Int64) (t : Nat) : Nat → Int64 := fun j => if k - t ≤ j ∧ j < k then kz_T a b k f j else f j
theorem kz_M_0 (a b : Int64) (k : Nat) (f : Nat → Int64) : kz_M a b k f 0 = f := by
  funext j
  have h : ¬ (k - 0 ≤ j ∧ j < k) := by omega
  simp only [kz_M, if_neg h]
theorem kz_M_k (a b : Int64) (k : Nat) (f : Nat → Int64) : kz_M a b k f k = kz_T a b k f := by
  funext j
  by_cases hj : j < k
  · have h : k - k ≤ j ∧ j < k := by omega
    simp only [kz_M, if_pos h]
  · have h : ¬ (k - k ≤ j ∧ j < k) := by omega
    simp only [kz_M, if_neg h, kz_T, if_neg hj]
theorem kz_M_at {a b : Int64} {k : Nat} {f : Nat → Int64} {t j : Nat} (h : j < k - t) : kz_M a b k f t j = f j := by
  have h2 : ¬ (k - t ≤ j ∧ j < k) := by omega
  simp only [kz_M, if_neg h2]
theorem kz_M_s {a b : Int64} {k : Nat} {f : Nat → Int64} {t j : Nat} {v : Int64} (ht : t < k) (hj : j = k - 1 - t) (hv : v = kz_T a b k f j) : vp_updL (kz_M a b k f t) j v = kz_M a b k f (t + 1) := by
  funext i
  simp only [vp_updL, kz_M]
  by_cases hi : i = j
  · subst hi
    have h1 : k - (t + 1) ≤ i ∧ i < k := by omega
    rw [if_pos rfl, if_pos h1, hv]
  · rw [if_neg hi]
    by_cases h1 : k - t ≤ i ∧ i < k
    · have h2 : k - (t + 1) ≤ i ∧ i < k := by omega
      rw [if_pos h1, if_pos h2]
    · have h2 : ¬ (k - (t + 1) ≤ i ∧ i < k) := by omega
      rw [if_neg h1, if_neg h2]
/-- a counter that falls from k - 1 and ends at -1 -/
def kz_dn (k t : Nat) : Int32 := if t < k then nI (k - 1 - t) else -1
theorem kz_dn_lt {k t : Nat} (h : t < k) : kz_dn k t = nI (k - 1 - t) := if_pos h
theorem kz_dn_k (k : Nat) : kz_dn k k = -1 := if_neg (by omega)
theorem kz_dn_s {k t : Nat} (h : t < k) : nI (k - 1 - t) + (-1) = kz_dn k (t + 1) := by
  by_cases h1 : t + 1 < k
  · rw [kz_dn_lt h1]
    obtain ⟨q, hq⟩ : ∃ q, k - 1 - t = q + 1 := ⟨k - 1 - t - 1, by omega⟩
    rw [hq, pk_m1]
    congr 1
    omega
  · have h2 : k - 1 - t = 0 := by omega
    rw [h2, nI_0, show kz_dn k (t + 1) = -1 from if_neg h1]
    decide
theorem kz_dn_0 {k : Nat} (h : 0 < k) : nI k - 1 = kz_dn k 0 := by
  rw [kz_dn_lt h]
  obtain ⟨q, rfl⟩ : ∃ q, k = q + 1 := ⟨k - 1, by omega⟩
  rw [nI_pred]
  rfl
theorem kz_in {p : Int32} {lo hi : Nat} (h1 : (lo : Int) ≤ p.toInt) (h2 : p.toInt ≤ hi) (hh : hi < 2147483648) : ∃ k : Nat, lo ≤ k ∧ k ≤ hi ∧ p = nI k := by
  refine ⟨p.toInt.toNat, by omega, by omega, ?_⟩
  have h3 : (p.toInt.toNat : Int) = p.toInt := by omega
  apply Int32.toInt_inj.mp
  rw [nI_toInt (by omega), h3]
/-- the reference: how far a grip is worked in -/
def kz_N2 (a b : Int64) (k : Nat) (f : Nat → Int64) (t : Nat) : Nat → Int64 := fun j => if t = 0 ∨ j < k - t ∨ k < j then f j else if j = k then f k + f (k - 1) * b / 10 else if j = k - t then f j * a / 10 else f j * a / 10 + f (j - 1) * b / 10
def kz_H (a b : Int64) (k : Nat) (f : Nat → Int64) : Nat → (Nat → Int64)
  | 0 => f
  | g + 1 => kz_N2 a b k (kz_H a b k f g) k
theorem kz_N2_0 (a b : Int64) (k : Nat) (f : Nat → Int64) : kz_N2 a b k f 0 = f := by
  funext j
  show (if (0 : Nat) = 0 ∨ j < k - 0 ∨ k < j then f j else _) = f j
  exact if_pos (Or.inl rfl)
theorem kz_N2_k {a b : Int64} {k : Nat} {f : Nat → Int64} (hk : 0 < k) : ∀ j, j < k → kz_N2 a b k f k j = kz_T a b k f j := by
  intro j hj
  simp only [kz_N2, kz_T]
  rw [if_neg (show ¬ (k = 0 ∨ j < k - k ∨ k < j) by omega), if_neg (show ¬ j = k by omega), if_pos hj]
  by_cases h0 : j = 0
  · subst h0
    rw [if_pos (show (0 : Nat) = k - k by omega), if_pos rfl, Int64.add_zero]
  · rw [if_neg (show ¬ j = k - k by omega), if_neg h0]
theorem kz_H_G {a b : Int64} {k : Nat} {f : Nat → Int64} (hk : 0 < k) : ∀ g j, j < k → kz_H a b k f g j = kz_G a b k f g j := by
  intro g
  induction g with
  | zero => intro j _; rfl
  | succ g ih => intro j hj; exact (kz_N2_k hk j hj).trans (kz_T_congr ih j hj)
theorem kz_N2_s {a b : Int64} {k : Nat} {f : Nat → Int64} {t j : Nat} {v w : Int64} (ht : t < k) (hj : j = k - 1 - t) (hv : v = kz_N2 a b k f t (j + 1) + kz_N2 a b k f t j * b / 10) (hw : w = kz_N2 a b k f t j * a / 10) : vp_updL (vp_updL (kz_N2 a b k f t) (j + 1) v) j w = kz_N2 a b k f (t + 1) := by
  have e0 : kz_N2 a b k f t j = f j := by
    simp only [kz_N2]
    rw [if_pos (show t = 0 ∨ j < k - t ∨ k < j by omega)]
  rw [e0] at hv hw
  funext i
  simp only [vp_updL]
  by_cases h1 : i = j
  · rw [if_pos h1, hw, h1]
    simp only [kz_N2]
    rw [if_neg (show ¬ (t + 1 = 0 ∨ j < k - (t + 1) ∨ k < j) by omega), if_neg (show ¬ j = k by omega), if_pos (show j = k - (t + 1) by omega)]
  · rw [if_neg h1]
    by_cases h2 : i = j + 1
    · rw [if_pos h2, hv, h2]
      simp only [kz_N2]
      rw [if_neg (show ¬ (t + 1 = 0 ∨ j + 1 < k - (t + 1) ∨ k < j + 1) by omega)]
      by_cases h3 : t = 0
      · have e1 : k - 1 = j := by omega
        have e2 : j + 1 = k := by omega
        rw [if_pos (Or.inl h3), if_pos e2, e1, e2]
      · rw [if_neg (show ¬ (t = 0 ∨ j + 1 < k - t ∨ k < j + 1) by omega), if_neg (show ¬ j + 1 = k by omega), if_neg (show ¬ j + 1 = k by omega), if_pos (show j + 1 = k - t by omega), if_neg (show ¬ j + 1 = k - (t + 1) by omega)]
        rfl
    · rw [if_neg h2]
      simp only [kz_N2]
      by_cases h4 : i < j ∨ k < i
      · rw [if_pos (show t = 0 ∨ i < k - t ∨ k < i by omega), if_pos (show t + 1 = 0 ∨ i < k - (t + 1) ∨ k < i by omega)]
      · rw [if_neg (show ¬ (t = 0 ∨ i < k - t ∨ k < i) by omega), if_neg (show ¬ (t + 1 = 0 ∨ i < k - (t + 1) ∨ k < i) by omega), if_neg (show ¬ i = k - t by omega), if_neg (show ¬ i = k - (t + 1) by omega)]
theorem kz_cpy_0 {α : Type} (f g : Nat → α) (d : Nat) : va_cpy f g 0 d 0 = g := by
  funext j
  have h : ¬ (d ≤ j ∧ j < d + 0) := by omega
  simp only [va_cpy, if_neg h]
theorem kz_cpy_s (f g : Nat → Int32) (d i : Nat) : upd (va_cpy f g 0 d i) (d + i) (f i) = va_cpy f g 0 d (i + 1) := by
  funext j
  simp only [upd, va_cpy]
  by_cases h1 : j = d + i
  · rw [if_pos h1, if_pos (show d ≤ j ∧ j < d + (i + 1) by omega), show 0 + (j - d) = i by omega]
  · rw [if_neg h1]
    by_cases h2 : d ≤ j ∧ j < d + i
    · rw [if_pos h2, if_pos (show d ≤ j ∧ j < d + (i + 1) by omega)]
    · rw [if_neg h2, if_neg (show ¬ (d ≤ j ∧ j < d + (i + 1)) by omega)]
