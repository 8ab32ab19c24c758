/-! two functions side by side: what holds if both answer -/
def d2 {α β : Type} (x : Option α) (y : Option β) (P : α → β → Prop) : Prop := ∀ (a : α) (b : β), x = some a → y = some b → P a b
theorem d2_some {α β : Type} {a : α} {b : β} {P : α → β → Prop} (h : P a b) : d2 (some a) (some b) P := by
  intro a2 b2 e1 e2
  cases e1
  cases e2
  exact h
theorem d2_mono {α β : Type} {x : Option α} {y : Option β} {P Q : α → β → Prop} (h : d2 x y P) (k : ∀ (a : α) (b : β), P a b → Q a b) : d2 x y Q := fun a b e1 e2 => k a b (h a b e1 e2)
theorem d2_of {α β : Type} {x : Option α} {y : Option β} {R : α → Prop} {S : β → Prop} {P : α → β → Prop} (hx : dAll x R) (hy : dAll y S) (k : ∀ (a : α) (b : β), R a → S b → P a b) : d2 x y P := fun a b e1 e2 => k a b (hx a e1) (hy b e2)
theorem d2_and {α β : Type} {x : Option α} {y : Option β} {P Q : α → β → Prop} (h : d2 x y P) (k : d2 x y Q) : d2 x y (fun a b => P a b ∧ Q a b) := fun a b e1 e2 => ⟨h a b e1 e2, k a b e1 e2⟩
theorem d2_x {α β : Type} {x : Option α} {y : Option β} {R : α → Prop} {P : α → β → Prop} (hx : dAll x R) (k : d2 x y (fun a b => R a → P a b)) : d2 x y P := fun a b e1 e2 => k a b e1 e2 (hx a e1)
theorem d2_y {α β : Type} {x : Option α} {y : Option β} {S : β → Prop} {P : α → β → Prop} (hy : dAll y S) (k : d2 x y (fun a b => S b → P a b)) : d2 x y P := fun a b e1 e2 => k a b e1 e2 (hy b e2)
theorem d2_lG {α β : Type} {c : Bool} {x : Option α} {y : Option β} {P : α → β → Prop} (h : c = true → d2 x y P) : d2 (dG c x) y P := by
  intro a b e1 e2
  obtain ⟨g, e⟩ := dG_some e1
  exact h g a b e e2
theorem d2_rG {α β : Type} {c : Bool} {x : Option α} {y : Option β} {P : α → β → Prop} (h : c = true → d2 x y P) : d2 x (dG c y) P := by
  intro a b e1 e2
  obtain ⟨g, e⟩ := dG_some e2
  exact h g a b e1 e
theorem d2_lL {α β γ : Type} {v : γ} {k : γ → Option α} {y : Option β} {P : α → β → Prop} (h : ∀ w : γ, w = v → d2 (k w) y P) : d2 (dL v k) y P := h v rfl
theorem d2_rL {α β γ : Type} {v : γ} {x : Option α} {k : γ → Option β} {P : α → β → Prop} (h : ∀ w : γ, w = v → d2 x (k w) P) : d2 x (dL v k) P := h v rfl
theorem d2_lB {α β γ δ : Type} {z : Option (γ × δ)} {k : γ → δ → Option α} {y : Option β} {R : γ × δ → Prop} {P : α → β → Prop} (h : dAll z R) (hk : ∀ (c : γ) (d : δ), R (c, d) → d2 (k c d) y P) : d2 (dB z k) y P := by
  intro a b e1 e2
  obtain ⟨c, d, e3, e4⟩ := dB_some e1
  exact hk c d (h _ e3) a b e4 e2
theorem d2_rB {α β γ δ : Type} {z : Option (γ × δ)} {x : Option α} {k : γ → δ → Option β} {R : γ × δ → Prop} {P : α → β → Prop} (h : dAll z R) (hk : ∀ (c : γ) (d : δ), R (c, d) → d2 x (k c d) P) : d2 x (dB z k) P := by
  intro a b e1 e2
  obtain ⟨c, d, e3, e4⟩ := dB_some e2
  exact hk c d (h _ e3) a b e1 e4
theorem d2_lV {α β γ : Type} {z : Option γ} {k : γ → Option α} {y : Option β} {R : γ → Prop} {P : α → β → Prop} (h : dAll z R) (hk : ∀ c : γ, R c → d2 (k c) y P) : d2 (dV z k) y P := by
  intro a b e1 e2
  obtain ⟨c, e3, e4⟩ := dV_some e1
  exact hk c (h _ e3) a b e4 e2
theorem d2_rV {α β γ : Type} {z : Option γ} {x : Option α} {k : γ → Option β} {R : γ → Prop} {P : α → β → Prop} (h : dAll z R) (hk : ∀ c : γ, R c → d2 x (k c) P) : d2 x (dV z k) P := by
  intro a b e1 e2
  obtain ⟨c, e3, e4⟩ := dV_some e2
  exact hk c (h _ e3) a b e1 e4
theorem d2_VV {α β γ δ : Type} {z : Option γ} {w : Option δ} {k : γ → Option α} {m : δ → Option β} {R : γ → δ → Prop} {P : α → β → Prop} (h : d2 z w R) (hk : ∀ (c : γ) (d : δ), R c d → d2 (k c) (m d) P) : d2 (dV z k) (dV w m) P := by
  intro a b e1 e2
  obtain ⟨c, e3, e4⟩ := dV_some e1
  obtain ⟨d, e5, e6⟩ := dV_some e2
  exact hk c d (h c d e3 e5) a b e4 e6
theorem d2_BB {α β γ γ2 δ δ2 : Type} {z : Option (γ × γ2)} {w : Option (δ × δ2)} {k : γ → γ2 → Option α} {m : δ → δ2 → Option β} {R : γ × γ2 → δ × δ2 → Prop} {P : α → β → Prop} (h : d2 z w R) (hk : ∀ (c : γ) (c2 : γ2) (d : δ) (e : δ2), R (c, c2) (d, e) → d2 (k c c2) (m d e) P) : d2 (dB z k) (dB w m) P := by
  intro a b e1 e2
  obtain ⟨c, c2, e3, e4⟩ := dB_some e1
  obtain ⟨d, d3, e5, e6⟩ := dB_some e2
  exact hk c c2 d d3 (h _ _ e3 e5) a b e4 e6
theorem d2_lif {α β : Type} {c : Prop} [Decidable c] {x z : Option α} {y : Option β} {P : α → β → Prop} (h1 : c → d2 x y P) (h2 : ¬ c → d2 z y P) : d2 (if c then x else z) y P := by
  by_cases hc : c
  · rw [if_pos hc]; exact h1 hc
  · rw [if_neg hc]; exact h2 hc
theorem d2_rif {α β : Type} {c : Prop} [Decidable c] {x : Option α} {y z : Option β} {P : α → β → Prop} (h1 : c → d2 x y P) (h2 : ¬ c → d2 x z P) : d2 x (if c then y else z) P := by
  by_cases hc : c
  · rw [if_pos hc]; exact h1 hc
  · rw [if_neg hc]; exact h2 hc
/-- a loop on both sides, step by step -/
theorem d2_fix {α α2 β β2 : Type} {F : (α → Option β) → α → Option β} {G : (α2 → Option β2) → α2 → Option β2} {P : β → β2 → Prop} (I : α → α2 → Prop)
    (step : ∀ (k : α → Option β) (k2 : α2 → Option β2), (∀ (a : α) (a2 : α2), I a a2 → d2 (k a) (k2 a2) P) → ∀ (a : α) (a2 : α2), I a a2 → d2 (F k a) (G k2 a2) P) :
    ∀ (n m : Nat) (a : α) (a2 : α2), I a a2 → d2 (dFix F n a) (dFix G m a2) P := by
  intro n
  induction n with
  | zero => intro m a a2 _ o o2 e; cases e
  | succ n ih =>
    intro m a a2 h
    cases m with
    | zero => intro o o2 _ e; cases e
    | succ m => exact step _ _ (fun b b2 hb => ih m b b2 hb) a a2 h
