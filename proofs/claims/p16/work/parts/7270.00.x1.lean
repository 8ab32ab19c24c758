/-! what a sum or a test says: its value by the words' values; out of the class's code, and out of tokens -/
abbrev VF : Type := (Nat → Int) → Option Int
def cdW (C : Nat → Int32) (p : Nat) (o a : Int32) : Prop := (C p &&& 15 : Int32) = o ∧ (C p >>> ((4 : Int32) &&& 31) : Int32) = a
def jnR (x : Int) : Option Int := if 1000000000 < x ∨ x < -1000000000 then none else some x
def jn (o v w : Int) : Option Int := if o = 2 then jnR (v + w) else if o = 3 then jnR (v - w) else if o = 4 then jnR (v * w) else if o = 7 then some (if v < w then 1 else 0) else if o = 8 then some (if w < v then 1 else 0) else if o = 9 then some (if v = w then 1 else 0) else if w = 0 then none else if o = 5 then jnR (v.tdiv w) else jnR (v.tmod w)
def vK (a : Int) : VF := fun _ => some a
def vW (i : Nat) : VF := fun A => some (A i)
def vB (o : Int) (f g : VF) : VF := fun A => (f A).bind (fun v => (g A).bind (fun w => jn o v w))
def vN (f : VF) : VF := fun A => (f A).bind (fun v => some (1 - v))
def vL (z : Int) (f g : VF) : VF := fun A => (f A).bind (fun v => if v = z then some v else g A)
def vM (m : Nat) (f : VF) : VF := if m % 2 = 0 then f else vN f
theorem vB_n1 {o : Int} {f g : VF} {A : Nat → Int} (h : f A = none) : vB o f g A = none := by
  unfold vB
  rw [h]; rfl
theorem vB_n2 {o v : Int} {f g : VF} {A : Nat → Int} (h : f A = some v) (k : g A = none) : vB o f g A = none := by
  unfold vB
  rw [h, k]; rfl
theorem vB_s {o v w : Int} {f g : VF} {A : Nat → Int} (h : f A = some v) (k : g A = some w) : vB o f g A = jn o v w := by
  unfold vB
  rw [h, k]; rfl
theorem vN_n {f : VF} {A : Nat → Int} (h : f A = none) : vN f A = none := by
  unfold vN
  rw [h]; rfl
theorem vN_s {v : Int} {f : VF} {A : Nat → Int} (h : f A = some v) : vN f A = some (1 - v) := by
  unfold vN
  rw [h]; rfl
theorem vL_n {z : Int} {f g : VF} {A : Nat → Int} (h : f A = none) : vL z f g A = none := by
  unfold vL
  rw [h]; rfl
theorem vL_y {z v : Int} {f g : VF} {A : Nat → Int} (h : f A = some v) (k : v = z) : vL z f g A = some v := by
  unfold vL
  rw [h]
  exact if_pos k
theorem vL_o {z v : Int} {f g : VF} {A : Nat → Int} (h : f A = some v) (k : ¬ v = z) : vL z f g A = g A := by
  unfold vL
  rw [h]
  exact if_neg k
theorem jn_01 {o v w z : Int} (h7 : 7 ≤ o) (h9 : o ≤ 9) (h : jn o v w = some z) : z = 0 ∨ z = 1 := by
  have h0 : ∀ (c : Prop) [Decidable c], some (if c then (1 : Int) else 0) = some z → z = 0 ∨ z = 1 := by
    intro c _ k
    have k2 := Option.some.inj k
    by_cases hc : c
    · rw [if_pos hc] at k2; exact Or.inr k2.symm
    · rw [if_neg hc] at k2; exact Or.inl k2.symm
  unfold jn at h
  rw [if_neg (by omega), if_neg (by omega), if_neg (by omega)] at h
  by_cases c7 : o = 7
  · rw [if_pos c7] at h; exact h0 _ h
  · rw [if_neg c7] at h
    by_cases c8 : o = 8
    · rw [if_pos c8] at h; exact h0 _ h
    · rw [if_neg c8, if_pos (by omega)] at h; exact h0 _ h
/-- the rules by which words of code say something: from a to b, with d places of the stack; k is 1 for a test -/
def CdR (C : Nat → Int32) (W : Int) (P : Nat → Nat → Nat → Nat → VF → Prop) : Prop :=
  (∀ (a d : Nat) (x : Int32), 1 ≤ d → cdW C a 0 x → P a (a + 1) d 0 (vK x.toInt)) ∧
  (∀ (a d : Nat) (x : Int32), 1 ≤ d → cdW C a 1 x → 0 ≤ x.toInt → x.toInt < W → P a (a + 1) d 0 (vW (Int32.toNatClampNeg x))) ∧
  (∀ (a b c d d1 k : Nat) (o x : Int32) (f g : VF), P a b d 0 f → P b c d1 0 g → d1 + 1 ≤ d → ((k = 0 ∧ 2 ≤ o.toInt ∧ o.toInt ≤ 6) ∨ (k = 1 ∧ 7 ≤ o.toInt ∧ o.toInt ≤ 9)) → cdW C c o x → P a (c + 1) d k (vB o.toInt f g)) ∧
  (∀ (a b d : Nat) (x : Int32) (f : VF), P a b d 1 f → cdW C b 10 x → P a (b + 1) d 1 (vN f)) ∧
  (∀ (a b c d : Nat) (o x : Int32) (z : Int) (f g : VF), P a b d 1 f → ((o = 11 ∧ z = 0) ∨ (o = 12 ∧ z = 1)) → cdW C b o x → x.toInt = (c : Int) → P (b + 1) c d 1 g → P a c d 1 (vL z f g))
def Cd (C : Nat → Int32) (W : Int) (a b d k : Nat) (f : VF) : Prop := ∀ P : Nat → Nat → Nat → Nat → VF → Prop, CdR C W P → P a b d k f
section
variable {C : Nat → Int32} {W : Int} {a b c d d1 k : Nat} {x o : Int32} {f g : VF} {z : Int}
theorem Cd.num (h : 1 ≤ d) (hw : cdW C a 0 x) : Cd C W a (a + 1) d 0 (vK x.toInt) := fun _ r => r.1 a d x h hw
theorem Cd.wrd (h : 1 ≤ d) (hw : cdW C a 1 x) (h0 : 0 ≤ x.toInt) (h9 : x.toInt < W) : Cd C W a (a + 1) d 0 (vW (Int32.toNatClampNeg x)) := fun _ r => r.2.1 a d x h hw h0 h9
theorem Cd.join (hx : Cd C W a b d 0 f) (hy : Cd C W b c d1 0 g) (h : d1 + 1 ≤ d) (ho : (k = 0 ∧ 2 ≤ o.toInt ∧ o.toInt ≤ 6) ∨ (k = 1 ∧ 7 ≤ o.toInt ∧ o.toInt ≤ 9)) (hw : cdW C c o x) : Cd C W a (c + 1) d k (vB o.toInt f g) := fun P r => r.2.2.1 a b c d d1 k o x f g (hx P r) (hy P r) h ho hw
theorem Cd.not (hx : Cd C W a b d 1 f) (hw : cdW C b 10 x) : Cd C W a (b + 1) d 1 (vN f) := fun P r => r.2.2.2.1 a b d x f (hx P r) hw
theorem Cd.leap (hx : Cd C W a b d 1 f) (ho : (o = 11 ∧ z = 0) ∨ (o = 12 ∧ z = 1)) (hw : cdW C b o x) (he : x.toInt = (c : Int)) (hy : Cd C W (b + 1) c d 1 g) : Cd C W a c d 1 (vL z f g) := fun P r => r.2.2.2.2 a b c d o x z f g (hx P r) ho hw he (hy P r)
theorem Cd.lt (h : Cd C W a b d k f) : a < b ∧ 1 ≤ d ∧ (k = 0 ∨ k = 1) :=
  h (fun a b d k _ => a < b ∧ 1 ≤ d ∧ (k = 0 ∨ k = 1)) ⟨fun _ _ _ h1 _ => ⟨by omega, h1, Or.inl rfl⟩, fun _ _ _ h1 _ _ _ => ⟨by omega, h1, Or.inl rfl⟩, fun _ _ _ _ _ _ _ _ _ _ h1 h2 h3 h4 _ => ⟨by omega, by omega, by omega⟩, fun _ _ _ _ _ h1 _ => ⟨by omega, h1.2.1, Or.inr rfl⟩, fun _ _ _ _ _ _ _ _ _ h1 _ _ _ h2 => ⟨by omega, h1.2.1, Or.inr rfl⟩⟩
/-- the same words elsewhere -/
theorem Cd.fr (h : Cd C W a b d k f) {C2 : Nat → Int32} (hC : ∀ i : Nat, a ≤ i → i < b → C2 i = C i) : Cd C2 W a b d k f := by
  have hw : ∀ (p : Nat) (o y : Int32), C2 p = C p → cdW C p o y → cdW C2 p o y := by
    intro p o y e hc
    unfold cdW
    rw [e]; exact hc
  refine (h (fun a b d k f => a < b ∧ ((∀ i : Nat, a ≤ i → i < b → C2 i = C i) → Cd C2 W a b d k f)) ⟨?_, ?_, ?_, ?_, ?_⟩).2 hC
  · exact fun a d y h1 h2 => ⟨by omega, fun e => Cd.num h1 (hw _ _ _ (e a (Nat.le_refl _) (by omega)) h2)⟩
  · exact fun a d y h1 h2 h3 h4 => ⟨by omega, fun e => Cd.wrd h1 (hw _ _ _ (e a (Nat.le_refl _) (by omega)) h2) h3 h4⟩
  · exact fun a b c d d1 k o y f g h1 h2 h3 h4 h5 => ⟨by omega, fun e => Cd.join (h1.2 (fun i i1 i2 => e i i1 (by omega))) (h2.2 (fun i i1 i2 => e i (by omega) (by omega))) h3 h4 (hw _ _ _ (e c (by omega) (by omega)) h5)⟩
  · exact fun a b d y f h1 h2 => ⟨by omega, fun e => Cd.not (h1.2 (fun i i1 i2 => e i i1 (by omega))) (hw _ _ _ (e b (by omega) (by omega)) h2)⟩
  · exact fun a b c d o y z f g h1 h2 h3 h4 h5 => ⟨by omega, fun e => Cd.leap (h1.2 (fun i i1 i2 => e i i1 (by omega))) h2 (hw _ _ _ (e b (by omega) (by omega)) h3) h4 (h5.2 (fun i i1 i2 => e i (by omega) i2))⟩
/-- more places of the stack do as well -/
theorem Cd.up (h : Cd C W a b d k f) {d2 : Nat} (hd : d ≤ d2) : Cd C W a b d2 k f := by
  refine h (fun a b d k f => ∀ d2 : Nat, d ≤ d2 → Cd C W a b d2 k f) ⟨?_, ?_, ?_, ?_, ?_⟩ d2 hd
  · exact fun a d y h1 h2 e he => Cd.num (by omega) h2
  · exact fun a d y h1 h2 h3 h4 e he => Cd.wrd (by omega) h2 h3 h4
  · exact fun a b c d d1 k o y f g h1 h2 h3 h4 h5 e he => Cd.join (h1 e he) (h2 d1 (Nat.le_refl _)) (by omega) h4 h5
  · exact fun a b d y f h1 h2 e he => Cd.not (h1 e he) h2
  · exact fun a b c d o y z f g h1 h2 h3 h4 h5 e he => Cd.leap (h1 e he) h2 h3 h4 (h5 e he)
/-- a test is 0 or 1 -/
theorem Cd.v01 (h : Cd C W a b d k f) (hk : k = 1) {A : Nat → Int} {v : Int} (hv : f A = some v) : v = 0 ∨ v = 1 := by
  refine h (fun _ _ _ k f => k = 1 → ∀ v : Int, f A = some v → v = 0 ∨ v = 1) ⟨?_, ?_, ?_, ?_, ?_⟩ hk v hv
  · exact fun _ _ _ _ _ e => by omega
  · exact fun _ _ _ _ _ _ _ e => by omega
  · intro a b c d d1 k o y f g _ _ _ h4 _ e v hv
    cases hf : f A with
    | none => rw [vB_n1 hf] at hv; cases hv
    | some p =>
      cases hg : g A with
      | none => rw [vB_n2 hf hg] at hv; cases hv
      | some r => rw [vB_s hf hg] at hv; exact jn_01 (by omega) (by omega) hv
  · intro a b d y f h1 _ _ v hv
    cases hf : f A with
    | none => rw [vN_n hf] at hv; cases hv
    | some p =>
      rw [vN_s hf] at hv
      have e := Option.some.inj hv
      have := h1 rfl p hf
      omega
  · intro a b c d o y z f g h1 _ _ _ h5 _ v hv
    cases hf : f A with
    | none => rw [vL_n hf] at hv; cases hv
    | some p =>
      by_cases c : p = z
      · rw [vL_y hf c] at hv
        have e := Option.some.inj hv
        have := h1 rfl p hf
        omega
      · rw [vL_o hf c] at hv; exact h5 rfl v hv
end
/-- where a term, a sum, an "and", a test ends: what comes is none of its own signs -/
def exT (_ : Nat) : Prop := True
def ex1 (cs : Nat → Int) (u : Nat) : Prop := ¬ cs u = 142 ∧ ¬ cs u = 147 ∧ ¬ cs u = 137
def ex2 (cs : Nat → Int) (u : Nat) : Prop := ¬ cs u = 143 ∧ ¬ cs u = 145
def ex5 (cs : Nat → Int) (u : Nat) : Prop := ¬ cs u = 6
def ex6 (cs : Nat → Int) (u : Nat) : Prop := ¬ cs u = 5
/-- the rules by which tokens say something: from token t to u; levels: 0 a part, 1 a term, 2 a sum, 3 behind "not"s, 4 with them, 5 an "and", 6 a test -/
def SpR (oo : Int) (cs vs : Nat → Int) (P : Nat → Nat → Nat → VF → Prop) : Prop :=
  (∀ t : Nat, cs t = 50 → 0 ≤ vs t → vs t ≤ 1000 → P 0 t (t + 1) (vK (vs t))) ∧
  (∀ t j : Nat, oo = 0 → j < 9 → cs t = ((wcd_3 j : Nat) : Int) → P 0 t (t + 1) (vW j)) ∧
  (∀ t j : Nat, oo = 1 → j < 5 → cs t = ((wcd_2 j : Nat) : Int) → P 0 t (t + 1) (vW j)) ∧
  (∀ t x j : Nat, oo = 1 → ((cs t = 21 ∧ x = 5) ∨ (cs t = 15 ∧ x = 11)) → cs (t + 1) = 50 → vs (t + 1) = (j : Int) → j < 6 → P 0 t (t + 2) (vW (x + j))) ∧
  (∀ (t u : Nat) (f : VF), cs t = 191 → P 2 (t + 1) u f → cs u = 193 → P 0 t (u + 1) f) ∧
  (∀ (t u : Nat) (f : VF), P 0 t u f → P 1 t u f) ∧
  (∀ (t u : Nat) (f : VF), P 1 t u f → ex1 cs u → P 2 t u f) ∧
  (∀ (t u w : Nat) (o : Int) (f g : VF), P 1 t u f → ((cs u = 142 ∧ o = 4) ∨ (cs u = 147 ∧ o = 5) ∨ (cs u = 137 ∧ o = 6)) → P 0 (u + 1) w g → P 1 t w (vB o f g)) ∧
  (∀ (t u w : Nat) (o : Int) (f g : VF), P 2 t u f → ((cs u = 143 ∧ o = 2) ∨ (cs u = 145 ∧ o = 3)) → P 1 (u + 1) w g → ex1 cs w → P 2 t w (vB o f g)) ∧
  (∀ (t u w : Nat) (o : Int) (f g : VF), P 2 t u f → ((cs u = 160 ∧ o = 7) ∨ (cs u = 162 ∧ o = 8) ∨ (cs u = 161 ∧ o = 9)) → P 2 (u + 1) w g → ex2 cs w → P 3 t w (vB o f g)) ∧
  (∀ (t u : Nat) (f : VF), cs t = 140 → P 6 (t + 1) u f → cs u = 141 → P 3 t (u + 1) f) ∧
  (∀ (t s u : Nat) (f : VF), t ≤ s → (∀ i : Nat, t ≤ i → i < s → cs i = 7) → P 3 s u f → P 4 t u (vM (s - t) f)) ∧
  (∀ (t u : Nat) (f : VF), P 4 t u f → P 5 t u f) ∧
  (∀ (t u : Nat) (f : VF), P 5 t u f → ex5 cs u → P 6 t u f) ∧
  (∀ (t u w : Nat) (f g : VF), P 5 t u f → cs u = 6 → P 4 (u + 1) w g → P 5 t w (vL 0 f g)) ∧
  (∀ (t u w : Nat) (f g : VF), P 6 t u f → cs u = 5 → P 5 (u + 1) w g → ex5 cs w → P 6 t w (vL 1 f g))
def Sp (oo : Int) (cs vs : Nat → Int) (k t u : Nat) (f : VF) : Prop := ∀ P : Nat → Nat → Nat → VF → Prop, SpR oo cs vs P → P k t u f
section
variable {oo : Int} {cs vs : Nat → Int} {t u w s x j : Nat} {o : Int} {f g : VF}
theorem Sp.num (h1 : cs t = 50) (h2 : 0 ≤ vs t) (h3 : vs t ≤ 1000) : Sp oo cs vs 0 t (t + 1) (vK (vs t)) := fun P R => R.1 t h1 h2 h3
theorem Sp.wl (h1 : oo = 0) (h2 : j < 9) (h3 : cs t = ((wcd_3 j : Nat) : Int)) : Sp oo cs vs 0 t (t + 1) (vW j) := fun P R => R.2.1 t j h1 h2 h3
theorem Sp.wo (h1 : oo = 1) (h2 : j < 5) (h3 : cs t = ((wcd_2 j : Nat) : Int)) : Sp oo cs vs 0 t (t + 1) (vW j) := fun P R => R.2.2.1 t j h1 h2 h3
theorem Sp.wp (h1 : oo = 1) (h2 : (cs t = 21 ∧ x = 5) ∨ (cs t = 15 ∧ x = 11)) (h3 : cs (t + 1) = 50) (h4 : vs (t + 1) = (j : Int)) (h5 : j < 6) : Sp oo cs vs 0 t (t + 2) (vW (x + j)) := fun P R => R.2.2.2.1 t x j h1 h2 h3 h4 h5
theorem Sp.brk (h1 : cs t = 191) (h : Sp oo cs vs 2 (t + 1) u f) (h2 : cs u = 193) : Sp oo cs vs 0 t (u + 1) f := fun P R => R.2.2.2.2.1 t u f h1 (h P R) h2
theorem Sp.up0 (h : Sp oo cs vs 0 t u f) : Sp oo cs vs 1 t u f := fun P R => R.2.2.2.2.2.1 t u f (h P R)
theorem Sp.up1 (h : Sp oo cs vs 1 t u f) (hx : ex1 cs u) : Sp oo cs vs 2 t u f := fun P R => R.2.2.2.2.2.2.1 t u f (h P R) hx
theorem Sp.mul (h : Sp oo cs vs 1 t u f) (ho : (cs u = 142 ∧ o = 4) ∨ (cs u = 147 ∧ o = 5) ∨ (cs u = 137 ∧ o = 6)) (h2 : Sp oo cs vs 0 (u + 1) w g) : Sp oo cs vs 1 t w (vB o f g) := fun P R => R.2.2.2.2.2.2.2.1 t u w o f g (h P R) ho (h2 P R)
theorem Sp.add (h : Sp oo cs vs 2 t u f) (ho : (cs u = 143 ∧ o = 2) ∨ (cs u = 145 ∧ o = 3)) (h2 : Sp oo cs vs 1 (u + 1) w g) (hx : ex1 cs w) : Sp oo cs vs 2 t w (vB o f g) := fun P R => R.2.2.2.2.2.2.2.2.1 t u w o f g (h P R) ho (h2 P R) hx
theorem Sp.cmp (h : Sp oo cs vs 2 t u f) (ho : (cs u = 160 ∧ o = 7) ∨ (cs u = 162 ∧ o = 8) ∨ (cs u = 161 ∧ o = 9)) (h2 : Sp oo cs vs 2 (u + 1) w g) (hx : ex2 cs w) : Sp oo cs vs 3 t w (vB o f g) := fun P R => R.2.2.2.2.2.2.2.2.2.1 t u w o f g (h P R) ho (h2 P R) hx
theorem Sp.par (h1 : cs t = 140) (h : Sp oo cs vs 6 (t + 1) u f) (h2 : cs u = 141) : Sp oo cs vs 3 t (u + 1) f := fun P R => R.2.2.2.2.2.2.2.2.2.2.1 t u f h1 (h P R) h2
theorem Sp.nots (h1 : t ≤ s) (h2 : ∀ i : Nat, t ≤ i → i < s → cs i = 7) (h : Sp oo cs vs 3 s u f) : Sp oo cs vs 4 t u (vM (s - t) f) := fun P R => R.2.2.2.2.2.2.2.2.2.2.2.1 t s u f h1 h2 (h P R)
theorem Sp.up4 (h : Sp oo cs vs 4 t u f) : Sp oo cs vs 5 t u f := fun P R => R.2.2.2.2.2.2.2.2.2.2.2.2.1 t u f (h P R)
theorem Sp.up5 (h : Sp oo cs vs 5 t u f) (hx : ex5 cs u) : Sp oo cs vs 6 t u f := fun P R => R.2.2.2.2.2.2.2.2.2.2.2.2.2.1 t u f (h P R) hx
theorem Sp.an (h : Sp oo cs vs 5 t u f) (ho : cs u = 6) (h2 : Sp oo cs vs 4 (u + 1) w g) : Sp oo cs vs 5 t w (vL 0 f g) := fun P R => R.2.2.2.2.2.2.2.2.2.2.2.2.2.2.1 t u w f g (h P R) ho (h2 P R)
theorem Sp.orr (h : Sp oo cs vs 6 t u f) (ho : cs u = 5) (h2 : Sp oo cs vs 5 (u + 1) w g) (hx : ex5 cs w) : Sp oo cs vs 6 t w (vL 1 f g) := fun P R => R.2.2.2.2.2.2.2.2.2.2.2.2.2.2.2 t u w f g (h P R) ho (h2 P R) hx
end
