/-! tokens: where one begins, where it ends, what it is -/
def tkC (c : Int) : Int := if 97 ≤ c ∧ c ≤ 122 then 1 else if 48 ≤ c ∧ c ≤ 57 then 2 else 3
def Sk (B : Nat → Int) (n p s : Nat) : Prop := p ≤ s ∧ s ≤ n ∧ (∀ i : Nat, p ≤ i → i < s → B i = 32) ∧ (s < n → ¬ B s = 32)
def En (B : Nat → Int) (n s e : Nat) : Prop := (n ≤ s ∧ e = s) ∨ (s < n ∧ s < e ∧ e ≤ n ∧ (tkC (B s) = 3 → e = s + 1) ∧ (∀ i : Nat, s ≤ i → i < e → tkC (B i) = tkC (B s)) ∧ (¬ tkC (B s) = 3 → e < n → ¬ tkC (B e) = tkC (B s)))
def dv (B : Nat → Int) (s : Nat) : Nat → Int
  | 0 => 0
  | k + 1 => 10 * dv B s k + (B (s + k) - 48)
def mn1 (x : Int) : Int := if x < 1001 then x else 1001
theorem tkC_r (c : Int) : tkC c = 1 ∨ tkC c = 2 ∨ tkC c = 3 := by
  unfold tkC
  by_cases h : 97 ≤ c ∧ c ≤ 122
  · rw [if_pos h]; exact Or.inl rfl
  · rw [if_neg h]
    by_cases h2 : 48 ≤ c ∧ c ≤ 57
    · rw [if_pos h2]; exact Or.inr (Or.inl rfl)
    · rw [if_neg h2]; exact Or.inr (Or.inr rfl)
theorem tkC_1 (c : Int) : tkC c = 1 ↔ 97 ≤ c ∧ c ≤ 122 := by
  unfold tkC
  by_cases h : 97 ≤ c ∧ c ≤ 122
  · rw [if_pos h]; exact ⟨fun _ => h, fun _ => rfl⟩
  · rw [if_neg h]
    by_cases h2 : 48 ≤ c ∧ c ≤ 57
    · rw [if_pos h2]; exact ⟨fun z => by omega, fun z => absurd z h⟩
    · rw [if_neg h2]; exact ⟨fun z => by omega, fun z => absurd z h⟩
theorem tkC_2 (c : Int) : tkC c = 2 ↔ 48 ≤ c ∧ c ≤ 57 := by
  unfold tkC
  by_cases h : 97 ≤ c ∧ c ≤ 122
  · rw [if_pos h]; exact ⟨fun z => by omega, fun z => by omega⟩
  · rw [if_neg h]
    by_cases h2 : 48 ≤ c ∧ c ≤ 57
    · rw [if_pos h2]; exact ⟨fun _ => h2, fun _ => rfl⟩
    · rw [if_neg h2]; exact ⟨fun z => by omega, fun z => absurd z h2⟩
theorem Sk_u {B : Nat → Int} {n p s t : Nat} (h : Sk B n p s) (k : Sk B n p t) : s = t := by
  obtain ⟨h1, h2, h3, h4⟩ := h
  obtain ⟨k1, k2, k3, k4⟩ := k
  rcases Nat.lt_or_ge s t with c | c
  · exact absurd (k3 s h1 c) (h4 (by omega))
  · rcases Nat.lt_or_ge t s with d | d
    · exact absurd (h3 t k1 d) (k4 (by omega))
    · omega
theorem En_u {B : Nat → Int} {n s e f : Nat} (h : En B n s e) (k : En B n s f) : e = f := by
  rcases h with ⟨h1, h2⟩ | ⟨h1, h2, h3, h4, h5, h6⟩
  · rcases k with ⟨k1, k2⟩ | ⟨k1, k2, k3, k4, k5, k6⟩
    · omega
    · omega
  · rcases k with ⟨k1, k2⟩ | ⟨k1, k2, k3, k4, k5, k6⟩
    · omega
    · by_cases c3 : tkC (B s) = 3
      · have := h4 c3; have := k4 c3; omega
      · rcases Nat.lt_or_ge e f with c | c
        · exact absurd (k5 e (by omega) c) (h6 c3 (by omega))
        · rcases Nat.lt_or_ge f e with d | d
          · exact absurd (h5 f (by omega) d) (k6 c3 (by omega))
          · omega
theorem dv_0 {B : Nat → Int} {s : Nat} : ∀ k : Nat, (∀ i : Nat, i < k → 48 ≤ B (s + i)) → 0 ≤ dv B s k := by
  intro k
  induction k with
  | zero => intro _; exact Int.le_refl 0
  | succ k ih =>
    intro h
    have h1 := ih (fun i hi => h i (by omega))
    have h2 := h k (by omega)
    show 0 ≤ 10 * dv B s k + (B (s + k) - 48)
    omega
/-! the class's tokens -/
theorem tk_of (v : Int32) : dAll (zX4_tokenOf v) (fun r => r.toInt = tkC v.toInt) := by
  have d48 : Int32.toInt 48 = 48 := by decide
  have d57 : Int32.toInt 57 = 57 := by decide
  have d97 : Int32.toInt 97 = 97 := by decide
  have d122 : Int32.toInt 122 = 122 := by decide
  have d1 : Int32.toInt 1 = 1 := by decide
  have d2' : Int32.toInt 2 = 2 := by decide
  have d3 : Int32.toInt 3 = 3 := by decide
  have h14 : ¬ (97 ≤ v.toInt ∧ v.toInt ≤ 122) → dAll (zX4_tokenOf_14 v) (fun r => r.toInt = tkC v.toInt) := by
    intro hn
    have e3 : ¬ (48 ≤ v.toInt ∧ v.toInt ≤ 57) → tkC v.toInt = 3 := fun z => by unfold tkC; rw [if_neg hn, if_neg z]
    unfold zX4_tokenOf_14 zX4_tokenOf_30 zX4_tokenOf_31
    refine dA_lt (fun c => dA_some ?_) (fun c => dA_lt (fun c2 => dA_some ?_) (fun c2 => dA_some ?_))
    · rw [e3 (by omega)]; exact d3
    · rw [e3 (by omega)]; exact d3
    · rw [(tkC_2 _).mpr ⟨by omega, by omega⟩]; exact d2'
  unfold zX4_tokenOf
  refine dA_lt (fun c => h14 (by omega)) (fun c => dA_lt (fun c2 => h14 (by omega)) (fun c2 => dA_some ?_))
  rw [(tkC_1 _).mpr ⟨by omega, by omega⟩]; exact d1
/-- a number in digits -/
theorem st_167 {B : Nat → Int} (q0 : dK) (x0 : Int32) (s e : Nat) (hB : ∀ i : Nat, Int32.toInt (q0.1 46 i) = B i) (h6 : Int32.toInt (q0.1 24 6) = (e : Int)) (hs : x0.toInt = (s : Int)) (hse : s ≤ e) (he : e ≤ 400) (h4 : Int32.toInt (q0.1 24 4) = 2) (hd : ∀ i : Nat, s ≤ i → i < e → 48 ≤ B i ∧ B i ≤ 57) (h7 : Int32.toInt (q0.1 24 7) = 0) :
    dAll (zX4_step_s24_167 dF q0 x0) (fun (o : dK) => Int32.toInt (o.1 24 7) = mn1 (dv B s (e - s)) ∧ ∀ j k : Nat, ¬ (j = 24 ∧ k = 7) → o.1 j k = q0.1 j k) := by
  have d2' : Int32.toInt 2 = 2 := by decide
  have d1001 : Int32.toInt 1001 = 1001 := by decide
  have d10 : Int32.toInt 10 = 10 := by decide
  have d48 : Int32.toInt 48 = 48 := by decide
  unfold zX4_step_s24_167
  refine dA_fix (fun (a : dK × Int32) => ∃ m : Nat, Int32.toInt a.2 = ((s + m : Nat) : Int) ∧ s + m ≤ e ∧ Int32.toInt (a.1.1 24 7) = mn1 (dv B s m) ∧ ∀ j k : Nat, ¬ (j = 24 ∧ k = 7) → a.1.1 j k = q0.1 j k) ?_ dF _ ⟨0, by show Int32.toInt x0 = _; rw [hs, Nat.add_zero], by omega, by show Int32.toInt (q0.1 24 7) = _; rw [h7]; rfl, fun _ _ _ => rfl⟩
  intro k hk a ha
  obtain ⟨qa, x1⟩ := a
  obtain ⟨m, a1, a2, a3, a4⟩ := ha
  replace a1 : Int32.toInt x1 = ((s + m : Nat) : Int) := a1
  replace a3 : Int32.toInt (qa.1 24 7) = mn1 (dv B s m) := a3
  replace a4 : ∀ j k : Nat, ¬ (j = 24 ∧ k = 7) → qa.1 j k = q0.1 j k := a4
  show dAll (zX4_step_s24_167b (fun q x1 => k (q, x1)) qa x1) _
  have e6 : Int32.toInt (qa.1 24 6) = (e : Int) := by rw [a4 24 6 (by decide)]; exact h6
  have e4 : Int32.toInt (qa.1 24 4) = 2 := by rw [a4 24 4 (by decide)]; exact h4
  have hm0 : 0 ≤ dv B s m := dv_0 m (fun i hi => (hd (s + i) (by omega) (by omega)).1)
  unfold zX4_step_s24_167b
  refine dA_le (fun c => ?_) (fun c => dA_eq (fun _ _ => ?_) (fun _ c2 => absurd (e4.trans d2'.symm) c2))
  · unfold zX4_step_s24_216
    refine dA_some ⟨?_, a4⟩
    rw [show e - s = m by omega]; exact a3
  · refine dA_G (fun _ => dA_G (fun hg => dA_L (fun v3 e3 => dA_L (fun q4 e4' => ?_))))
    have n1 := cl_eq (i := x1) (by omega)
    have ev : Int32.toInt v3 = B (s + m) := by rw [e3, a4 46 _ (by omega), hB, show Int32.toNatClampNeg x1 = s + m by omega]
    have hb := hd (s + m) (by omega) (by omega)
    have t1 : Int32.toInt (x1 + 1) = Int32.toInt x1 + 1 := ti_add rfl (by decide) (by omega) (by omega)
    have h1001 : mn1 (dv B s m) ≤ 1001 ∧ 0 ≤ mn1 (dv B s m) := by
      unfold mn1
      by_cases z : dv B s m < 1001
      · rw [if_pos z]; omega
      · rw [if_neg z]; omega
    have tm : Int32.toInt ((qa.1 24 7) * 10 : Int32) = mn1 (dv B s m) * 10 := ti_mul a3 d10 (by omega) (by omega)
    have ta : Int32.toInt (((qa.1 24 7) * 10 : Int32) + v3) = mn1 (dv B s m) * 10 + B (s + m) := ti_add tm ev (by omega) (by omega)
    have ts : Int32.toInt ((((qa.1 24 7) * 10 : Int32) + v3) - 48 : Int32) = mn1 (dv B s m) * 10 + B (s + m) - 48 := ti_sub ta d48 (by omega) (by omega)
    refine hk (q4, x1 + 1) ⟨m + 1, ?_, by omega, ?_, ?_⟩
    · show Int32.toInt (x1 + 1) = _
      omega
    · show Int32.toInt (q4.1 24 7) = mn1 (10 * dv B s m + (B (s + m) - 48))
      rw [e4', cui_e]
      have hmn := mn_k (b := ((((qa.1 24 7) * 10 : Int32) + v3) - 48 : Int32)) d1001
      rw [ts] at hmn
      generalize Int32.toInt (mnI 1001 ((((qa.1 24 7) * 10 : Int32) + v3) - 48 : Int32)) = z at hmn ⊢
      unfold mn1 at hmn ⊢
      by_cases z1 : dv B s m < 1001
      · rw [if_pos z1] at hmn
        by_cases z2 : 10 * dv B s m + (B (s + m) - 48) < 1001
        · rw [if_pos z2]; omega
        · rw [if_neg z2]; omega
      · rw [if_neg z1] at hmn
        rw [if_neg (by omega)]; omega
    · intro j i hj
      show q4.1 j i = _
      rw [e4', cui_x hj]; exact a4 j i hj
/-- the end of a token -/
theorem st_111 {B : Nat → Int} (q0 : dK) (s n : Nat) (hB : ∀ i : Nat, Int32.toInt (q0.1 46 i) = B i) (h1 : Int32.toInt (q0.1 24 1) = (n : Int)) (hn : n ≤ 400) (h5 : Int32.toInt (q0.1 24 5) = (s : Int)) (hs : s < n) (h6 : Int32.toInt (q0.1 24 6) = (s : Int) + 1) (h4 : Int32.toInt (q0.1 24 4) = tkC (B s)) (h7 : Int32.toInt (q0.1 24 7) = 0) :
    dAll (zX4_step_s24_111 dF q0) (fun (o : dK) => ∃ e : Nat, En B n s e ∧ Int32.toInt (o.1 24 6) = (e : Int) ∧ (tkC (B s) = 2 → Int32.toInt (o.1 24 7) = mn1 (dv B s (e - s))) ∧ ∀ j k : Nat, ¬ (j = 24 ∧ (k = 6 ∨ k = 7)) → o.1 j k = q0.1 j k) := by
  have d2' : Int32.toInt 2 = 2 := by decide
  have d3 : Int32.toInt 3 = 3 := by decide
  have d1 : Int32.toInt 1 = 1 := by decide
  -- the number behind the end
  have h162 : ∀ (qa : dK) (e : Nat), s < e → e ≤ n → Int32.toInt (qa.1 24 6) = (e : Int) → (∀ i : Nat, s ≤ i → i < e → tkC (B i) = tkC (B s)) → (tkC (B s) = 3 → e = s + 1) → (¬ tkC (B s) = 3 → e < n → ¬ tkC (B e) = tkC (B s)) → (∀ j k : Nat, ¬ (j = 24 ∧ k = 6) → qa.1 j k = q0.1 j k) →
      dAll (zX4_step_s24_162 qa) (fun (o : dK) => ∃ e : Nat, En B n s e ∧ Int32.toInt (o.1 24 6) = (e : Int) ∧ (tkC (B s) = 2 → Int32.toInt (o.1 24 7) = mn1 (dv B s (e - s))) ∧ ∀ j k : Nat, ¬ (j = 24 ∧ (k = 6 ∨ k = 7)) → o.1 j k = q0.1 j k) := by
    intro qa e w1 w2 w3 w4 w5 w6 w7
    have hE : En B n s e := Or.inr ⟨hs, w1, w2, w5, w4, w6⟩
    unfold zX4_step_s24_162
    by_cases c2 : tkC (B s) = 2
    · have x := st_167 (B := B) qa (qa.1 24 5) s e (fun i => by rw [w7 46 i (by omega)]; exact hB i) w3 (by rw [w7 24 5 (by decide)]; exact h5) (by omega) (by omega) (by rw [w7 24 4 (by decide), h4]; exact c2) (fun i i1 i2 => (tkC_2 _).mp ((w4 i i1 i2).trans c2)) (by rw [w7 24 7 (by decide)]; exact h7)
      refine dA_mono x (fun o z => ⟨e, hE, by rw [z.2 24 6 (by decide)]; exact w3, fun _ => z.1, fun j k hj => ?_⟩)
      rw [z.2 j k (fun y => hj ⟨y.1, Or.inr y.2⟩), w7 j k (fun y => hj ⟨y.1, Or.inl y.2⟩)]
    · have e4 : Int32.toInt (qa.1 24 4) = tkC (B s) := by rw [w7 24 4 (by decide)]; exact h4
      have z : dAll (zX4_step_s24_167 dF qa (qa.1 24 5)) (fun (o : dK) => o = qa) := by
        unfold zX4_step_s24_167
        refine dA_fix (fun (a : dK × Int32) => a.1 = qa) ?_ dF _ rfl
        intro k hk a ha
        obtain ⟨qb, x1⟩ := a
        replace ha : qb = qa := ha
        subst ha
        show dAll (zX4_step_s24_167b (fun q x1 => k (q, x1)) qb x1) _
        unfold zX4_step_s24_167b zX4_step_s24_216
        refine dA_if (fun _ => dA_some rfl) (fun _ => dA_eq (fun _ c9 => ?_) (fun _ _ => dA_some rfl))
        exfalso; omega
      refine dA_mono z (fun o y => ?_)
      subst y
      exact ⟨e, hE, w3, fun y => absurd y c2, fun j k hj => w7 j k (fun y => hj ⟨y.1, Or.inl y.2⟩)⟩
  unfold zX4_step_s24_111
  refine dA_fix (fun (a : dK) => ∃ e : Nat, s < e ∧ e ≤ n ∧ Int32.toInt (a.1 24 6) = (e : Int) ∧ (∀ i : Nat, s ≤ i → i < e → tkC (B i) = tkC (B s)) ∧ (tkC (B s) = 3 → e = s + 1) ∧ ∀ j k : Nat, ¬ (j = 24 ∧ k = 6) → a.1 j k = q0.1 j k) ?_ dF _ ⟨s + 1, by omega, by omega, by rw [h6]; omega, fun i i1 i2 => by rw [show i = s by omega], fun _ => rfl, fun _ _ _ => rfl⟩
  intro k hk qa ha
  obtain ⟨e, w1, w2, w3, w4, w5, w7⟩ := ha
  show dAll (zX4_step_s24_111b (fun q => k q) qa) _
  have e1 : Int32.toInt (qa.1 24 1) = (n : Int) := by rw [w7 24 1 (by decide)]; exact h1
  have e4 : Int32.toInt (qa.1 24 4) = tkC (B s) := by rw [w7 24 4 (by decide)]; exact h4
  unfold zX4_step_s24_111b
  refine dA_le (fun c => ?_) (fun c => dA_eq (fun _ c3 => ?_) (fun _ c3 => ?_))
  · exact h162 qa e w1 w2 w3 w4 w5 (fun _ z => by omega) w7
  · exact h162 qa e w1 w2 w3 w4 w5 (fun z => absurd (by omega) z) w7
  · refine dA_G (fun _ => dA_G (fun hg => dA_L (fun v3 e3 => dA_V (tk_of v3) (fun r4 h4' => ?_))))
    have n6 := cl_eq (i := qa.1 24 6) (by omega)
    have ev : Int32.toInt v3 = B e := by rw [e3, w7 46 _ (by omega), hB, show Int32.toNatClampNeg (qa.1 24 6) = e by omega]
    rw [ev] at h4'
    have t6 : Int32.toInt ((qa.1 24 6) + 1 : Int32) = Int32.toInt (qa.1 24 6) + 1 := ti_add rfl d1 (by omega) (by omega)
    refine dA_eq (fun _ c5 => dA_L (fun q6 e6 => ?_)) (fun _ c5 => ?_)
    · refine hk q6 ⟨e + 1, by omega, by omega, ?_, fun i i1 i2 => ?_, fun z => absurd (by omega) c3, fun j i hj => ?_⟩
      · rw [e6, cui_e]; omega
      · by_cases ci : i = e
        · rw [ci]; omega
        · exact w4 i i1 (by omega)
      · rw [e6, cui_x hj]; exact w7 j i hj
    · exact h162 qa e w1 w2 w3 w4 w5 (fun _ _ z => c5 (by omega)) w7
/-- one token on -/
theorem st_step {B : Nat → Int} (q : dK) (p n : Nat) (hB : ∀ i : Nat, Int32.toInt (q.1 46 i) = B i) (h10 : q.1 24 10 = -1) (h1 : Int32.toInt (q.1 24 1) = (n : Int)) (hn : n ≤ 400) (h6 : Int32.toInt (q.1 24 6) = (p : Int)) (hp : p ≤ n) :
    dAll (zX4_step_s24 q) (fun (o : dK) => ∃ s e : Nat, Sk B n p s ∧ En B n s e ∧ Int32.toInt (o.1 24 5) = (s : Int) ∧ Int32.toInt (o.1 24 6) = (e : Int) ∧ Int32.toInt (o.1 24 4) = (if s < n then tkC (B s) else 0) ∧ (s < n → tkC (B s) = 2 → Int32.toInt (o.1 24 7) = mn1 (dv B s (e - s))) ∧ ∀ j k : Nat, ¬ (j = 24 ∧ (k = 4 ∨ k = 5 ∨ k = 6 ∨ k = 7)) → o.1 j k = q.1 j k) := by
  have d0 : Int32.toInt 0 = 0 := by decide
  have d1 : Int32.toInt 1 = 1 := by decide
  have d32 : Int32.toInt 32 = 32 := by decide
  have h55 : ∀ (qa : dK) (s : Nat), Sk B n p s → Int32.toInt (qa.1 24 5) = (s : Int) → (∀ j k : Nat, ¬ (j = 24 ∧ k = 5) → qa.1 j k = q.1 j k) → dAll (zX4_step_s24_55 qa) (fun (o : dK) => ∃ s e : Nat, Sk B n p s ∧ En B n s e ∧ Int32.toInt (o.1 24 5) = (s : Int) ∧ Int32.toInt (o.1 24 6) = (e : Int) ∧ Int32.toInt (o.1 24 4) = (if s < n then tkC (B s) else 0) ∧ (s < n → tkC (B s) = 2 → Int32.toInt (o.1 24 7) = mn1 (dv B s (e - s))) ∧ ∀ j k : Nat, ¬ (j = 24 ∧ (k = 4 ∨ k = 5 ∨ k = 6 ∨ k = 7)) → o.1 j k = q.1 j k) := by
    intro qa s hS w5 w7
    unfold zX4_step_s24_55
    refine dA_L (fun q1 e1 => dA_L (fun q2 e2 => dA_L (fun q3 e3 => ?_)))
    have f3 : ∀ j k : Nat, ¬ (j = 24 ∧ (k = 4 ∨ k = 6 ∨ k = 7)) → q3.1 j k = qa.1 j k := by
      intro j k hj
      rw [e3, cui_x (fun z => hj ⟨z.1, Or.inl z.2⟩), e2, cui_x (fun z => hj ⟨z.1, Or.inr (Or.inr z.2)⟩), e1, cui_x (fun z => hj ⟨z.1, Or.inr (Or.inl z.2)⟩)]
    have g5 : Int32.toInt (q3.1 24 5) = (s : Int) := by rw [f3 24 5 (by decide)]; exact w5
    have g1 : Int32.toInt (q3.1 24 1) = (n : Int) := by rw [f3 24 1 (by decide), w7 24 1 (by decide)]; exact h1
    have g6 : q3.1 24 6 = qa.1 24 5 := by rw [e3, cui_n (by decide), e2, cui_n (by decide), e1, cui_e]
    have g7 : q3.1 24 7 = 0 := by rw [e3, cui_n (by decide), e2, cui_e]
    have g4 : q3.1 24 4 = 0 := by rw [e3, cui_e]
    refine dA_lt (fun c => ?_) (fun c => dA_some ?_)
    · refine dA_G (fun _ => dA_G (fun hg => dA_L (fun v6 e6 => dA_V (tk_of v6) (fun r7 h7 => dA_L (fun q9 e9 => dA_L (fun q10 e10 => ?_))))))
      have n5 := cl_eq (i := q3.1 24 5) (by omega)
      have ev : Int32.toInt v6 = B s := by rw [e6, f3 46 _ (by omega), w7 46 _ (by omega), hB, show Int32.toNatClampNeg (q3.1 24 5) = s by omega]
      have f10 : ∀ j k : Nat, ¬ (j = 24 ∧ (k = 4 ∨ k = 6)) → q10.1 j k = q3.1 j k := by
        intro j k hj
        rw [e10, cui_x (fun z => hj ⟨z.1, Or.inr z.2⟩), e9, cui_x (fun z => hj ⟨z.1, Or.inl z.2⟩)]
      have t6 : Int32.toInt ((q9.1 24 6) + 1 : Int32) = (s : Int) + 1 := by
        refine ti_add ?_ d1 (by omega) (by omega)
        rw [e9, cui_n (by decide), g6]; exact w5
      have x := st_111 (B := B) q10 s n (fun i => by rw [f10 46 i (by omega), f3 46 i (by omega), w7 46 i (by omega)]; exact hB i) (by rw [f10 24 1 (by decide)]; exact g1) hn (by rw [f10 24 5 (by decide)]; exact g5) (by omega) (by rw [e10, cui_e]; exact t6) (by rw [e10, cui_n (by decide), e9, cui_e, h7, ev]) (by rw [f10 24 7 (by decide), g7]; exact d0)
      refine dA_mono x (fun o z => ?_)
      obtain ⟨e, z1, z2, z3, z4⟩ := z
      refine ⟨s, e, hS, z1, ?_, z2, ?_, fun _ y => z3 y, fun j k hj => ?_⟩
      · rw [z4 24 5 (by decide), f10 24 5 (by decide)]; exact g5
      · rw [if_pos (by omega), z4 24 4 (by decide), e10, cui_n (by decide), e9, cui_e, h7, ev]
      · rw [z4 j k (fun y => hj ⟨y.1, by omega⟩), f10 j k (fun y => hj ⟨y.1, by omega⟩), f3 j k (fun y => hj ⟨y.1, by omega⟩), w7 j k (fun y => hj ⟨y.1, by omega⟩)]
    · have hsn : s = n := by have := hS.2.1; omega
      refine ⟨s, s, hS, Or.inl ⟨by omega, rfl⟩, g5, by rw [g6]; exact w5, ?_, fun z => by omega, fun j k hj => ?_⟩
      · rw [if_neg (by omega), g4]; exact d0
      · rw [f3 j k (fun y => hj ⟨y.1, by omega⟩), w7 j k (fun y => hj ⟨y.1, by omega⟩)]
  unfold zX4_step_s24
  refine dA_if (fun _ => dA_L (fun q1 e1 => ?_)) (fun c => absurd h10 c)
  unfold zX4_step_s24_17
  refine dA_fix (fun (a : dK) => ∃ s : Nat, p ≤ s ∧ s ≤ n ∧ (∀ i : Nat, p ≤ i → i < s → B i = 32) ∧ Int32.toInt (a.1 24 5) = (s : Int) ∧ ∀ j k : Nat, ¬ (j = 24 ∧ k = 5) → a.1 j k = q.1 j k) ?_ dF _ ⟨p, Nat.le_refl _, hp, fun i i1 i2 => by omega, by rw [e1, cui_e]; exact h6, fun j k hj => by rw [e1, cui_x hj]⟩
  intro k hk qa ha
  obtain ⟨s, w1, w2, w3, w5, w7⟩ := ha
  show dAll (zX4_step_s24_17b (fun q => k q) qa) _
  have g1 : Int32.toInt (qa.1 24 1) = (n : Int) := by rw [w7 24 1 (by decide)]; exact h1
  unfold zX4_step_s24_17b
  refine dA_le (fun c => h55 qa s ⟨w1, w2, w3, fun z => by omega⟩ w5 w7) (fun c => dA_G (fun _ => dA_G (fun hg => dA_L (fun v3 e3 => ?_))))
  have n5 := cl_eq (i := qa.1 24 5) (by omega)
  have ev : Int32.toInt v3 = B s := by rw [e3, w7 46 _ (by omega), hB, show Int32.toNatClampNeg (qa.1 24 5) = s by omega]
  refine dA_eq (fun _ c5 => dA_L (fun q4 e4 => ?_)) (fun _ c5 => h55 qa s ⟨w1, w2, w3, fun _ z => c5 (by omega)⟩ w5 w7)
  have t5 : Int32.toInt ((qa.1 24 5) + 1 : Int32) = Int32.toInt (qa.1 24 5) + 1 := ti_add rfl d1 (by omega) (by omega)
  refine hk q4 ⟨s + 1, by omega, by omega, fun i i1 i2 => ?_, ?_, fun j i hj => ?_⟩
  · by_cases ci : i = s
    · rw [ci]; omega
    · exact w3 i i1 (by omega)
  · rw [e4, cui_e]; omega
  · rw [e4, cui_x hj]; exact w7 j i hj
