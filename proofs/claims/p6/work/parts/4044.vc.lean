/-! counting over the towers -/
def sm (g : Nat → Nat) : Nat → Nat
  | 0 => 0
  | n + 1 => sm g n + g n
theorem sm_same {g g' : Nat → Nat} : ∀ n : Nat, (∀ k : Nat, k < n → g' k = g k) → sm g' n = sm g n := by
  intro n
  induction n with
  | zero => intro _; rfl
  | succ n ih =>
    intro h
    unfold sm
    rw [ih (fun k hk => h k (by omega)), h n (by omega)]
theorem sm_upd {g g' : Nat → Nat} {i : Nat} (h : ∀ k : Nat, ¬ k = i → g' k = g k) : ∀ n : Nat, i < n → sm g' n + g i = sm g n + g' i := by
  intro n
  induction n with
  | zero => intro hi; omega
  | succ n ih =>
    intro hi
    unfold sm
    by_cases c : i = n
    · subst c
      rw [sm_same i (fun k hk => h k (by omega))]
      omega
    · have := ih (by omega)
      rw [h n (fun z => c z.symm)]
      omega
theorem sm_le {g : Nat → Nat} {b : Nat} (h : ∀ k : Nat, g k ≤ b) : ∀ n : Nat, sm g n ≤ b * n := by
  intro n
  induction n with
  | zero => exact Nat.le_refl 0
  | succ n ih =>
    unfold sm
    have := h n
    rw [Nat.mul_succ]
    omega
theorem sm_split {g : Nat → Nat} (h : ∀ k : Nat, g k ≤ 1) (m : Nat) : ∀ n : Nat, m ≤ n → sm g n ≤ sm g m + (n - m) := by
  intro n
  induction n with
  | zero =>
    intro hm
    have : m = 0 := by omega
    subst this
    exact Nat.le_refl _
  | succ n ih =>
    intro hm
    by_cases c : m = n + 1
    · subst c
      omega
    · have h1 := ih (by omega)
      have h2 := h n
      show sm g n + g n ≤ sm g m + (n + 1 - m)
      omega
def fz (f : Nat → Int32) (i : Nat) : Nat := if f i = 1000000 then 1 else 0
theorem fz_le (f : Nat → Int32) (i : Nat) : fz f i ≤ 1 := by
  unfold fz
  by_cases c : f i = 1000000
  · rw [if_pos c]; exact Nat.le_refl 1
  · rw [if_neg c]; exact Nat.zero_le 1
/-- 46080, as a word that does not unfold -/
noncomputable def cN : Nat := Classical.choose (⟨46080, rfl⟩ : ∃ n : Nat, n = 46080)
theorem cN_eq : cN = 46080 := Classical.choose_spec (⟨46080, rfl⟩ : ∃ n : Nat, n = 46080)
noncomputable def cF (f : Nat → Int32) : Nat := sm (fz f) cN
theorem fz_o {f : Nat → Int32} {i k : Nat} {v : Int32} (h : ¬ k = i) : fz (upd f i v) k = fz f k := by
  unfold fz
  rw [show upd f i v k = f k from if_neg h]
theorem fz_e {f : Nat → Int32} {i : Nat} {v : Int32} : fz (upd f i v) i = if v = 1000000 then 1 else 0 := by
  unfold fz
  rw [show upd f i v i = v from if_pos rfl]
/-- n towers wait or were looked at; as many at least are no more far -/
def Bq (n : Nat) (d u : Nat → Int32) : Prop := n + cF d ≤ 46080 ∧ ∀ j : Nat, j < n → 0 ≤ (u j).toInt ∧ (u j).toInt ≤ 46079 ∧ (d (u j).toInt.toNat).toInt ≤ (j : Int)
theorem cF_pos {d : Nat → Int32} {i : Nat} (hi : i < 46080) (h : d i = 1000000) : 1 ≤ cF d := by
  have h1 : sm (fz (upd d i 0)) cN + fz d i = sm (fz d) cN + fz (upd d i 0) i := sm_upd (fun k hk => fz_o hk) cN (by rw [cN_eq]; exact hi)
  rw [fz_e, if_neg (by decide)] at h1
  have h2 : fz d i = 1 := by unfold fz; rw [if_pos h]
  unfold cF
  omega
theorem B_push {n i w : Nat} {d u : Nat → Int32} {v x : Int32} (h : Bq n d u) (hi : i < n) (hw : w < 46080) (hd : d w = 1000000) (hv : v.toInt = (d (u i).toInt.toNat).toInt + 1) (hv0 : 0 ≤ v.toInt) (hx : x.toInt = (w : Int)) : n < 46080 ∧ Bq (n + 1) (upd d w v) (upd u n x) := by
  have hp := cF_pos hw hd
  have h1 : sm (fz (upd d w v)) cN + fz d w = sm (fz d) cN + fz (upd d w v) w := sm_upd (fun k hk => fz_o hk) cN (by rw [cN_eq]; exact hw)
  have hvi := (h.2 i hi).2.2
  have hnn := h.1
  have hvn : ¬ v = 1000000 := fun z => by
    have : v.toInt = 1000000 := by rw [z]; decide
    omega
  rw [fz_e, if_neg hvn] at h1
  have h2 : fz d w = 1 := by unfold fz; rw [if_pos hd]
  have hc : cF (upd d w v) + 1 = cF d := by unfold cF; omega
  refine ⟨by omega, by omega, fun j hj => ?_⟩
  by_cases c : j = n
  · subst c
    rw [show upd u j x j = x from if_pos rfl]
    have e : x.toInt.toNat = w := by omega
    rw [e, show upd d w v w = v from if_pos rfl]
    exact ⟨by omega, by omega, by omega⟩
  · have hj2 := h.2 j (by omega)
    rw [show upd u n x j = u j from if_neg c]
    have hne : ¬ (u j).toInt.toNat = w := fun z => by
      rw [z, hd] at hj2
      have : (1000000 : Int32).toInt = 1000000 := by decide
      omega
    rw [show upd d w v (u j).toInt.toNat = d (u j).toInt.toNat from if_neg hne]
    exact hj2
