/-! what holds if a function answers -/
def dAll {α : Type} (x : Option α) (P : α → Prop) : Prop := ∀ o : α, x = some o → P o
theorem dA_some {α : Type} {o : α} {P : α → Prop} (h : P o) : dAll (some o) P := by
  intro o2 e
  cases e
  exact h
theorem dA_tr {α : Type} {x : Option α} : dAll x (fun _ => True) := fun _ _ => trivial
theorem dA_mono {α : Type} {x : Option α} {P Q : α → Prop} (h : dAll x P) (k : ∀ o : α, P o → Q o) : dAll x Q := fun o e => k o (h o e)
theorem dA_and {α : Type} {x : Option α} {P Q : α → Prop} (h : dAll x P) (k : dAll x Q) : dAll x (fun o => P o ∧ Q o) := fun o e => ⟨h o e, k o e⟩
theorem dA_of {α : Type} {x : Option α} {P : α → Prop} (h : dOk x P) : dAll x P := by
  obtain ⟨w, e, hw⟩ := h
  intro o e2
  rw [e] at e2
  cases e2
  exact hw
theorem dA_ok {α : Type} {x : Option α} {P Q : α → Prop} (h : dOk x P) (k : dAll x Q) : dOk x (fun o => P o ∧ Q o) := by
  obtain ⟨w, e, hw⟩ := h
  exact ⟨w, e, hw, k w e⟩
theorem dA_G {α : Type} {b : Bool} {x : Option α} {P : α → Prop} (h : b = true → dAll x P) : dAll (dG b x) P := by
  intro o e
  obtain ⟨e1, e2⟩ := dG_some e
  exact h e1 o e2
theorem dA_L {α β : Type} {v : α} {k : α → Option β} {P : β → Prop} (h : ∀ y : α, y = v → dAll (k y) P) : dAll (dL v k) P := h v rfl
theorem dA_B {α β γ : Type} {x : Option (α × β)} {k : α → β → Option γ} {R : α × β → Prop} {P : γ → Prop} (h : dAll x R) (hk : ∀ (a : α) (b : β), R (a, b) → dAll (k a b) P) : dAll (dB x k) P := by
  intro o e
  cases hx : x with
  | none => rw [hx] at e; cases e
  | some w => rw [hx] at e; exact hk w.1 w.2 (h w hx) o e
theorem dA_V {α β : Type} {x : Option α} {k : α → Option β} {R : α → Prop} {P : β → Prop} (h : dAll x R) (hk : ∀ a : α, R a → dAll (k a) P) : dAll (dV x k) P := by
  intro o e
  cases hx : x with
  | none => rw [hx] at e; cases e
  | some w => rw [hx] at e; exact hk w (h w hx) o e
theorem dA_if {α : Type} {c : Prop} [Decidable c] {x y : Option α} {P : α → Prop} (h1 : c → dAll x P) (h2 : ¬ c → dAll y P) : dAll (if c then x else y) P := by
  by_cases hc : c
  · rw [if_pos hc]; exact h1 hc
  · rw [if_neg hc]; exact h2 hc
theorem dA_fix {α β : Type} {F : (α → Option β) → α → Option β} {P : β → Prop} (I : α → Prop) (step : ∀ k : α → Option β, (∀ a : α, I a → dAll (k a) P) → ∀ a : α, I a → dAll (F k a) P) : ∀ (n : Nat) (a : α), I a → dAll (dFix F n a) P := by
  intro n
  induction n with
  | zero => intro a _ o e; cases e
  | succ n ih => intro a ha; exact step (dFix F n) ih a ha
theorem dA_lt {β : Type} {a b : Int32} {x y : Option β} {P : β → Prop} (h1 : a.toInt < b.toInt → dAll x P) (h2 : b.toInt ≤ a.toInt → dAll y P) : dAll (if a < b then x else y) P :=
  dA_if (fun c => h1 (Int32.lt_iff_toInt_lt.mp c)) (fun c => h2 (Int.not_lt.mp (fun z => c (Int32.lt_iff_toInt_lt.mpr z))))
theorem dA_le {β : Type} {a b : Int32} {x y : Option β} {P : β → Prop} (h1 : a.toInt ≤ b.toInt → dAll x P) (h2 : b.toInt < a.toInt → dAll y P) : dAll (if a ≤ b then x else y) P :=
  dA_if (fun c => h1 (Int32.le_iff_toInt_le.mp c)) (fun c => h2 (Int.not_le.mp (fun z => c (Int32.le_iff_toInt_le.mpr z))))
theorem dA_eq {β : Type} {a b : Int32} {x y : Option β} {P : β → Prop} (h1 : a = b → a.toInt = b.toInt → dAll x P) (h2 : ¬ a = b → ¬ a.toInt = b.toInt → dAll y P) : dAll (if a = b then x else y) P :=
  dA_if (fun c => h1 c (congrArg Int32.toInt c)) (fun c => h2 c (fun z => c (Int32.toInt_inj.mp z)))
/-- a guard on an index, told -/
theorem dg_of {i : Int32} {n : Nat} (h : dg i n = true) : 0 ≤ i.toInt ∧ i.toInt < (n : Int) := by
  have h2 : ¬ (i < 0 ∨ n ≤ i.toNatClampNeg) := of_decide_eq_true h
  have h0 : Int32.toInt 0 = 0 := by decide
  have a : ¬ i.toInt < 0 := fun z => h2 (Or.inl (Int32.lt_iff_toInt_lt.mpr (by rw [h0]; exact z)))
  have n0 := cl_eq (i := i) (by omega)
  have b : ¬ n ≤ i.toNatClampNeg := fun z => h2 (Or.inr z)
  exact ⟨by omega, by omega⟩
