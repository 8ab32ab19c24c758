section
/-! the pure phase: that a function answers, and what -/
def dOk {α : Type} (x : Option α) (P : α → Prop) : Prop := ∃ o : α, x = some o ∧ P o
theorem dOk_some {α : Type} {o : α} {P : α → Prop} (h : P o) : dOk (some o) P := ⟨o, rfl, h⟩
theorem dOk_mono {α : Type} {x : Option α} {P Q : α → Prop} (h : dOk x P) (k : ∀ o : α, P o → Q o) : dOk x Q := by
  obtain ⟨o, e, h⟩ := h
  exact ⟨o, e, k o h⟩
theorem dOk_G {α : Type} {b : Bool} {x : Option α} {P : α → Prop} (hb : b = true) (h : dOk x P) : dOk (dG b x) P := by
  subst hb
  exact h
theorem dOk_L {α β : Type} {v : α} {k : α → Option β} {P : β → Prop} (h : ∀ y : α, y = v → dOk (k y) P) : dOk (dL v k) P := h v rfl
theorem dOk_B {α β γ : Type} {x : Option (α × β)} {k : α → β → Option γ} {R : α × β → Prop} {P : γ → Prop} (h : dOk x R) (hk : ∀ (a : α) (b : β), R (a, b) → dOk (k a b) P) : dOk (dB x k) P := by
  obtain ⟨⟨a, b⟩, e, h⟩ := h
  subst e
  exact hk a b h
theorem dOk_V {α β : Type} {x : Option α} {k : α → Option β} {R : α → Prop} {P : β → Prop} (h : dOk x R) (hk : ∀ a : α, R a → dOk (k a) P) : dOk (dV x k) P := by
  obtain ⟨a, e, h⟩ := h
  subst e
  exact hk a h
theorem dOk_lt {β : Type} {a b : Int32} {A B : Int} {x y : Option β} {P : β → Prop} (ha : a.toInt = A) (hb : b.toInt = B) (h1 : A < B → dOk x P) (h2 : B ≤ A → dOk y P) : dOk (if a < b then x else y) P := by
  subst ha hb
  by_cases c : a < b
  · rw [if_pos c]; exact h1 (Int32.lt_iff_toInt_lt.mp c)
  · rw [if_neg c]; exact h2 (Int.not_lt.mp (fun z => c (Int32.lt_iff_toInt_lt.mpr z)))
theorem dOk_le {β : Type} {a b : Int32} {A B : Int} {x y : Option β} {P : β → Prop} (ha : a.toInt = A) (hb : b.toInt = B) (h1 : A ≤ B → dOk x P) (h2 : B < A → dOk y P) : dOk (if a ≤ b then x else y) P := by
  subst ha hb
  by_cases c : a ≤ b
  · rw [if_pos c]; exact h1 (Int32.le_iff_toInt_le.mp c)
  · rw [if_neg c]; exact h2 (Int.not_le.mp (fun z => c (Int32.le_iff_toInt_le.mpr z)))
theorem dOk_eq {β : Type} {a b : Int32} {A B : Int} {x y : Option β} {P : β → Prop} (ha : a.toInt = A) (hb : b.toInt = B) (h1 : a = b → A = B → dOk x P) (h2 : ¬ a = b → ¬ A = B → dOk y P) : dOk (if a = b then x else y) P := by
  subst ha hb
  by_cases c : a = b
  · rw [if_pos c]; exact h1 c (by rw [c])
  · rw [if_neg c]; exact h2 c (fun z => c (Int32.toInt_inj.mp z))
theorem dFix_ok {α β : Type} {F : (α → Option β) → α → Option β} {P : β → Prop} (I : α → Prop) (μ : α → Nat)
    (h : ∀ a : α, I a → ∀ k : α → Option β, (∀ a' : α, I a' → μ a' < μ a → dOk (k a') P) → dOk (F k a) P) :
    ∀ a : α, I a → ∀ n : Nat, μ a < n → dOk (dFix F n a) P := by
  intro a ha n
  induction n generalizing a with
  | zero => intro hn; omega
  | succ n ih =>
    intro hn
    exact h a ha (dFix F n) (fun a' ha' hm => ih a' ha' (by omega))
theorem dF_gt {m : Nat} (h : m < 1000000000000) : m < dF := Nat.lt_of_lt_of_le h dF_ge
/-! numbers as integers -/
theorem ti_add {a b : Int32} {A B : Int} (ha : a.toInt = A) (hb : b.toInt = B) (h1 : -2147483648 ≤ A + B) (h2 : A + B ≤ 2147483647) : (a + b).toInt = A + B := by
  rw [Int32.toInt_add, ha, hb]
  exact Int.bmod_eq_of_le (by omega) (by omega)
theorem ti_sub {a b : Int32} {A B : Int} (ha : a.toInt = A) (hb : b.toInt = B) (h1 : -2147483648 ≤ A - B) (h2 : A - B ≤ 2147483647) : (a - b).toInt = A - B := by
  rw [Int32.toInt_sub, ha, hb]
  exact Int.bmod_eq_of_le (by omega) (by omega)
theorem ti_mul {a b : Int32} {A B : Int} (ha : a.toInt = A) (hb : b.toInt = B) (h1 : -2147483648 ≤ A * B) (h2 : A * B ≤ 2147483647) : (a * b).toInt = A * B := by
  rw [Int32.toInt_mul, ha, hb]
  exact Int.bmod_eq_of_le (by omega) (by omega)
theorem ti_neg {a : Int32} {A : Int} (ha : a.toInt = A) (h1 : -2147483648 ≤ -A) (h2 : -A ≤ 2147483647) : (-a).toInt = -A := by
  rw [Int32.toInt_neg, ha]
  exact Int.bmod_eq_of_le (by omega) (by omega)
theorem ti_div {a b : Int32} {A B : Int} (ha : a.toInt = A) (hb : b.toInt = B) (h1 : 0 ≤ A) (h2 : 0 < B) : (a / b).toInt = A / B := by
  have h3 := a.toInt_lt
  have h4 : A / B ≤ A := Int.ediv_le_self B h1
  have h5 : 0 ≤ A / B := Int.ediv_nonneg h1 (Int.le_of_lt h2)
  rw [Int32.toInt_div, ha, hb, Int.tdiv_eq_ediv_of_nonneg h1]
  exact Int.bmod_eq_of_le (by omega) (by omega)
theorem ti_rem {a b : Int32} {A B : Int} (ha : a.toInt = A) (hb : b.toInt = B) (h1 : 0 ≤ A) (h2 : 0 < B) : (a - a / b * b).toInt = A % B := by
  have h3 := a.toInt_lt
  have h0 := ti_div ha hb h1 h2
  have h4 : A / B * B ≤ A := Int.ediv_mul_le A (by omega)
  have h5 : 0 ≤ A / B := Int.ediv_nonneg h1 (Int.le_of_lt h2)
  have h6 : 0 ≤ A / B * B := Int.mul_nonneg h5 (Int.le_of_lt h2)
  have h7 : (a / b * b).toInt = A / B * B := ti_mul h0 hb (by omega) (by omega)
  rw [ti_sub ha h7 (by omega) (by omega)]
  have h8 := Int.mul_ediv_add_emod A B
  rw [Int.mul_comm] at h8
  omega
theorem ti_rg (x : Int32) : -2147483648 ≤ x.toInt ∧ x.toInt ≤ 2147483647 := by
  have h1 := x.le_toInt
  have h2 := x.toInt_lt
  omega
theorem ti_and1 (x : Int32) : 0 ≤ (x &&& 1).toInt ∧ (x &&& 1).toInt ≤ 1 := by
  have h := pk_and x (m := 1) 1 (by decide)
  rw [h, nI_toInt (by omega)]
  omega
theorem ti_and255 (x : Int32) : 0 ≤ (x &&& 255).toInt ∧ (x &&& 255).toInt ≤ 255 := by
  have h := pk_and x (m := 255) 8 (by decide)
  rw [h, nI_toInt (by omega)]
  omega
theorem ti_nI {x : Int32} (h : 0 ≤ x.toInt) : ∃ n : Nat, x = nI n ∧ (n : Int) = x.toInt ∧ n < 2147483648 := by
  have h2 := ti_rg x
  refine ⟨x.toInt.toNat, ?_, by omega, by omega⟩
  apply Int32.toInt_inj.mp
  rw [nI_toInt (by omega)]
  omega
theorem nI_or (a b : Nat) : nI a ||| nI b = nI (a ||| b) := by
  apply Int32.toBitVec_inj.1
  show BitVec.ofNat 32 a ||| BitVec.ofNat 32 b = BitVec.ofNat 32 (a ||| b)
  apply BitVec.eq_of_getLsbD_eq
  intro i hi
  simp [hi]
theorem ti_or {x y : Int32} (k : Nat) (hk : k < 31) (hx : 0 ≤ x.toInt) (hx2 : x.toInt < 2 ^ k) (hy : 0 ≤ y.toInt) (hy2 : y.toInt < 2 ^ k) : 0 ≤ (x ||| y).toInt ∧ (x ||| y).toInt < 2 ^ k := by
  obtain ⟨n, rfl, hn, hn2⟩ := ti_nI hx
  obtain ⟨m, rfl, hm, hm2⟩ := ti_nI hy
  rw [nI_or]
  have e1 : n < 2 ^ k := by rw [← hn] at hx2; exact_mod_cast hx2
  have e2 : m < 2 ^ k := by rw [← hm] at hy2; exact_mod_cast hy2
  have e3 : n ||| m < 2 ^ k := Nat.or_lt_two_pow e1 e2
  have e4 : 2 ^ k < 2 ^ 31 := Nat.pow_lt_pow_right (by decide) hk
  rw [nI_toInt (by omega)]
  refine ⟨by omega, ?_⟩
  exact_mod_cast e3
theorem sh_bit : ∀ n : Nat, n < 2 → ∀ k : Nat, k < 7 → nI n <<< (nI k &&& 31) = nI (n * 2 ^ k) := by decide +kernel
theorem ti_shl {x s : Int32} (hx : 0 ≤ x.toInt) (hx2 : x.toInt ≤ 1) (hs : 0 ≤ s.toInt) (hs2 : s.toInt ≤ 6) : (x <<< (s &&& 31)).toInt = x.toInt * 2 ^ s.toInt.toNat := by
  obtain ⟨n, rfl, hn, hn2⟩ := ti_nI hx
  obtain ⟨m, rfl, hm, hm2⟩ := ti_nI hs
  rw [sh_bit n (by omega) m (by omega)]
  have h2 : (2 : Nat) ^ m ≤ 2 ^ 6 := Nat.pow_le_pow_right (by decide) (by omega)
  have h3 : n * 2 ^ m ≤ 1 * 2 ^ 6 := Nat.mul_le_mul (by omega) h2
  rw [nI_toInt (by omega), ← hn, ← hm]
  simp
theorem ti_pw {n : Nat} (h : n ≤ 6) : (n = 0 ∧ (2 : Int) ^ n = 1) ∨ (n = 1 ∧ (2 : Int) ^ n = 2) ∨ (n = 2 ∧ (2 : Int) ^ n = 4) ∨ (n = 3 ∧ (2 : Int) ^ n = 8) ∨ (n = 4 ∧ (2 : Int) ^ n = 16) ∨ (n = 5 ∧ (2 : Int) ^ n = 32) ∨ (n = 6 ∧ (2 : Int) ^ n = 64) := by
  have : ∀ n : Nat, n ≤ 6 → (n = 0 ∧ (2 : Int) ^ n = 1) ∨ (n = 1 ∧ (2 : Int) ^ n = 2) ∨ (n = 2 ∧ (2 : Int) ^ n = 4) ∨ (n = 3 ∧ (2 : Int) ^ n = 8) ∨ (n = 4 ∧ (2 : Int) ^ n = 16) ∨ (n = 5 ∧ (2 : Int) ^ n = 32) ∨ (n = 6 ∧ (2 : Int) ^ n = 64) := by decide +kernel
  exact this n h
/-! guards -/
theorem dg_ok {i : Int32} {n : Nat} (h0 : 0 ≤ i.toInt) (h1 : i.toInt < n) : dg i n = true := by
  apply decide_eq_true
  intro h
  rcases h with h | h
  · have h2 := Int32.lt_iff_toInt_lt.mp h
    have h3 : (0 : Int32).toInt = 0 := rfl
    omega
  · have h2 : i.toNatClampNeg = i.toInt.toNat := rfl
    omega
theorem cl_eq {i : Int32} (h : 0 ≤ i.toInt) : ((i.toNatClampNeg : Nat) : Int) = i.toInt := by
  have h2 : i.toNatClampNeg = i.toInt.toNat := rfl
  omega
theorem dbl_ok {v : Int32} (h : v.toInt = 0 ∨ v.toInt = 1) : dbl v = true := by
  apply decide_eq_true
  rcases h with h | h
  · exact Or.inl (Int32.toInt_inj.mp h)
  · exact Or.inr (Int32.toInt_inj.mp h)
theorem dnz_ok {v : Int32} (h : ¬ v.toInt = 0) : dnz v = true := by
  apply decide_eq_true
  intro z
  subst z
  exact h rfl
theorem dnl_ok {v : Int64} (h : ¬ v = 0) : dnl v = true := decide_eq_true h
/-! stores -/
theorem dui_o {q : dS} {j k j' : Nat} {v : Int32} (h : ¬ j' = j) : (dui q j k v).1 j' = q.1 j' := if_neg h
theorem dui_s {q : dS} {j k : Nat} {v : Int32} : (dui q j k v).1 j = upd (q.1 j) k v := if_pos rfl
theorem dui_n {q : dS} {j k i : Nat} {v : Int32} (h : ¬ i = k) : (dui q j k v).1 j i = q.1 j i := by rw [dui_s]; exact if_neg h
theorem dui_e {q : dS} {j k : Nat} {v : Int32} : (dui q j k v).1 j k = v := by rw [dui_s]; exact if_pos rfl
theorem dui_2 {q : dS} {j k : Nat} {v : Int32} : (dui q j k v).2 = q.2 := rfl
theorem dul_1 {q : dS} {j k : Nat} {v : Int64} : (dul q j k v).1 = q.1 := rfl
/-! what stays: rows outside of S, fields outside of F -/
def dFr (S F : List Nat) (q q' : dS) : Prop := (∀ j : Nat, j ∉ S → j ≠ 0 → q'.1 j = q.1 j) ∧ (∀ k : Nat, k ∉ F → q'.1 0 k = q.1 0 k)
theorem dFr.rf {S F : List Nat} {q : dS} : dFr S F q q := ⟨fun _ _ _ => rfl, fun _ _ => rfl⟩
theorem dFr.i {S F : List Nat} {q q' : dS} (h : dFr S F q q') {j k : Nat} {v : Int32} (hj : j ∈ S) (h0 : j ≠ 0) : dFr S F q (dui q' j k v) := by
  refine ⟨fun a ha h1 => ?_, fun a ha => ?_⟩
  · rw [dui_o (fun z => ha (by rw [z]; exact hj))]; exact h.1 a ha h1
  · rw [dui_o (fun z => h0 z.symm)]; exact h.2 a ha
theorem dFr.f {S F : List Nat} {q q' : dS} (h : dFr S F q q') {k : Nat} {v : Int32} (hk : k ∈ F) : dFr S F q (dui q' 0 k v) := by
  refine ⟨fun a ha h1 => ?_, fun a ha => ?_⟩
  · rw [dui_o h1]; exact h.1 a ha h1
  · rw [dui_n (fun z => ha (by rw [z]; exact hk))]; exact h.2 a ha
theorem dFr.l {S F : List Nat} {q q' : dS} (h : dFr S F q q') {j k : Nat} {v : Int64} : dFr S F q (dul q' j k v) := h
theorem dFr.t {S F S2 F2 : List Nat} {q q' q2 : dS} (h : dFr S F q q') (h2 : dFr S2 F2 q' q2) (hS : ∀ a ∈ S2, a ∈ S) (hF : ∀ a ∈ F2, a ∈ F) : dFr S F q q2 :=
  ⟨fun a ha h1 => (h2.1 a (fun z => ha (hS a z)) h1).trans (h.1 a ha h1), fun a ha => (h2.2 a (fun z => ha (hF a z))).trans (h.2 a ha)⟩
theorem dFr.w {S F S2 F2 : List Nat} {q q2 : dS} (h2 : dFr S2 F2 q q2) (hS : ∀ a ∈ S2, a ∈ S) (hF : ∀ a ∈ F2, a ∈ F) : dFr S F q q2 := dFr.rf.t h2 hS hF
def rg (x : Int32) (a b : Int) : Prop := a ≤ x.toInt ∧ x.toInt ≤ b
theorem ti_shl5 {x s : Int32} (hx : 0 ≤ x.toInt) (hx2 : x.toInt ≤ 1) (hs : 0 ≤ s.toInt) (hs2 : s.toInt ≤ 5) : 0 ≤ (x <<< (s &&& 31)).toInt ∧ (x <<< (s &&& 31)).toInt ≤ 32 := by
  obtain ⟨n, rfl, hn, hn2⟩ := ti_nI hx
  obtain ⟨m, rfl, hm, hm2⟩ := ti_nI hs
  rw [sh_bit n (by omega) m (by omega)]
  have h2 : (2 : Nat) ^ m ≤ 2 ^ 5 := Nat.pow_le_pow_right (by decide) (by omega)
  have h3 : n * 2 ^ m ≤ 1 * 2 ^ 5 := Nat.mul_le_mul (by omega) h2
  rw [nI_toInt (by omega)]
  omega
theorem ti_shl6 {x s : Int32} (hx : 0 ≤ x.toInt) (hx2 : x.toInt ≤ 1) (hs : 0 ≤ s.toInt) (hs2 : s.toInt ≤ 6) : 0 ≤ (x <<< (s &&& 31)).toInt ∧ (x <<< (s &&& 31)).toInt ≤ 64 := by
  obtain ⟨n, rfl, hn, hn2⟩ := ti_nI hx
  obtain ⟨m, rfl, hm, hm2⟩ := ti_nI hs
  rw [sh_bit n (by omega) m (by omega)]
  have h2 : (2 : Nat) ^ m ≤ 2 ^ 6 := Nat.pow_le_pow_right (by decide) (by omega)
  have h3 : n * 2 ^ m ≤ 1 * 2 ^ 6 := Nat.mul_le_mul (by omega) h2
  rw [nI_toInt (by omega)]
  omega
theorem tl_add {a b : Int64} {A B : Int} (ha : a.toInt = A) (hb : b.toInt = B) (h1 : -9223372036854775808 ≤ A + B) (h2 : A + B ≤ 9223372036854775807) : (a + b).toInt = A + B := by
  rw [Int64.toInt_add, ha, hb]
  exact Int.bmod_eq_of_le (by omega) (by omega)
theorem tl_sub {a b : Int64} {A B : Int} (ha : a.toInt = A) (hb : b.toInt = B) (h1 : -9223372036854775808 ≤ A - B) (h2 : A - B ≤ 9223372036854775807) : (a - b).toInt = A - B := by
  rw [Int64.toInt_sub, ha, hb]
  exact Int.bmod_eq_of_le (by omega) (by omega)
theorem tl_mul {a b : Int64} {A B : Int} (ha : a.toInt = A) (hb : b.toInt = B) (h1 : -9223372036854775808 ≤ A * B) (h2 : A * B ≤ 9223372036854775807) : (a * b).toInt = A * B := by
  rw [Int64.toInt_mul, ha, hb]
  exact Int.bmod_eq_of_le (by omega) (by omega)
theorem tl_div {a b : Int64} {A B : Int} (ha : a.toInt = A) (hb : b.toInt = B) (h1 : 0 ≤ A) (h2 : 0 < B) : (a / b).toInt = A / B := by
  have h3 := a.toInt_lt
  have h4 : A / B ≤ A := Int.ediv_le_self B h1
  have h5 : 0 ≤ A / B := Int.ediv_nonneg h1 (Int.le_of_lt h2)
  rw [Int64.toInt_div, ha, hb, Int.tdiv_eq_ediv_of_nonneg h1]
  exact Int.bmod_eq_of_le (by omega) (by omega)
theorem tl_rem {a b : Int64} {A B : Int} (ha : a.toInt = A) (hb : b.toInt = B) (h1 : 0 ≤ A) (h2 : 0 < B) : (a - a / b * b).toInt = A % B := by
  have h3 := a.toInt_lt
  have h0 := tl_div ha hb h1 h2
  have h4 : A / B * B ≤ A := Int.ediv_mul_le A (by omega)
  have h5 : 0 ≤ A / B := Int.ediv_nonneg h1 (Int.le_of_lt h2)
  have h6 : 0 ≤ A / B * B := Int.mul_nonneg h5 (Int.le_of_lt h2)
  have h7 : (a / b * b).toInt = A / B * B := tl_mul h0 hb (by omega) (by omega)
  rw [tl_sub ha h7 (by omega) (by omega)]
  have h8 := Int.mul_ediv_add_emod A B
  rw [Int.mul_comm] at h8
  omega
def facI (n : Int) : Int := if n ≤ 1 then 1 else if n = 2 then 2 else if n = 3 then 6 else if n = 4 then 24 else if n = 5 then 120 else 720
def powI (n : Int) : Int := if n = 0 then 1 else if n = 1 then 2 else if n = 2 then 4 else if n = 3 then 8 else if n = 4 then 16 else if n = 5 then 32 else 64
theorem ti_shlP {s : Int32} (hs : 0 ≤ s.toInt) (hs2 : s.toInt ≤ 6) : ((1 : Int32) <<< (s &&& 31)).toInt = powI s.toInt := by
  obtain ⟨m, rfl, hm, hm2⟩ := ti_nI hs
  have h : ∀ k : Nat, k < 7 → ((1 : Int32) <<< (nI k &&& 31)).toInt = powI k := by decide +kernel
  rw [h m (by omega), ← hm]
/-! the same, and of row 2 what lies from place 14 on -/
def dFk (S F : List Nat) (q q' : dS) : Prop := dFr S F q q' ∧ ∀ i : Nat, 14 ≤ i → q'.1 2 i = q.1 2 i
theorem dFk.rf {S F : List Nat} {q : dS} : dFk S F q q := ⟨dFr.rf, fun _ _ => rfl⟩
theorem dFk.i {S F : List Nat} {q q' : dS} (h : dFk S F q q') {j k : Nat} {v : Int32} (hj : j ∈ S) (h0 : j ≠ 0) (h2 : ¬ 2 = j) : dFk S F q (dui q' j k v) := ⟨h.1.i hj h0, fun i hi => by rw [dui_o h2]; exact h.2 i hi⟩
theorem dFk.k {S F : List Nat} {q q' : dS} (h : dFk S F q q') {k : Nat} {v : Int32} (hk : k < 14) (hj : 2 ∈ S) : dFk S F q (dui q' 2 k v) := ⟨h.1.i hj (by decide), fun i hi => by rw [dui_n (by omega)]; exact h.2 i hi⟩
theorem dFk.f {S F : List Nat} {q q' : dS} (h : dFk S F q q') {k : Nat} {v : Int32} (hk : k ∈ F) : dFk S F q (dui q' 0 k v) := ⟨h.1.f hk, fun i hi => by rw [dui_o (by decide)]; exact h.2 i hi⟩
theorem dFk.l {S F : List Nat} {q q' : dS} (h : dFk S F q q') {j k : Nat} {v : Int64} : dFk S F q (dul q' j k v) := h
theorem dFk.t {S F S2 F2 : List Nat} {q q' q2 : dS} (h : dFk S F q q') (h2 : dFk S2 F2 q' q2) (hS : ∀ a ∈ S2, a ∈ S) (hF : ∀ a ∈ F2, a ∈ F) : dFk S F q q2 := ⟨h.1.t h2.1 hS hF, fun i hi => (h2.2 i hi).trans (h.2 i hi)⟩
theorem dFk.tr {S F S2 F2 : List Nat} {q q' q2 : dS} (h : dFk S F q q') (h2 : dFr S2 F2 q' q2) (hS : ∀ a ∈ S2, a ∈ S) (hF : ∀ a ∈ F2, a ∈ F) (hn : 2 ∉ S2) : dFk S F q q2 := ⟨h.1.t h2 hS hF, fun i hi => by rw [h2.1 2 hn (by decide)]; exact h.2 i hi⟩
end
section
/-! the grammar of texts, over codes C and values V of tokens -/
def gEnd (op : Nat → Prop) (X : Nat → Nat → Prop) : Nat → Nat → Nat → Prop
  | 0, i, j => X i j ∧ ¬ op j
  | n + 1, i, j => ∃ m : Nat, X i m ∧ op m ∧ gEnd op X n (m + 1) j
def gSeq (op : Nat → Prop) (X : Nat → Nat → Prop) (i j : Nat) : Prop := ∃ n : Nat, gEnd op X n i j
def gLeafL (C : Nat → Int) (i j : Nat) : Prop := (C i = 50 ∨ (8 ≤ C i ∧ C i ≤ 16)) ∧ j = i + 1
def gLeafO (C V : Nat → Int) (i j : Nat) : Prop := ((C i = 50 ∨ (16 ≤ C i ∧ C i ≤ 20)) ∧ j = i + 1) ∨ ((C i = 15 ∨ C i = 21) ∧ C (i + 1) = 50 ∧ 0 ≤ V (i + 1) ∧ V (i + 1) ≤ 5 ∧ j = i + 2)
def gLeaf (o : Bool) (C V : Nat → Int) (i j : Nat) : Prop := match o with
  | false => gLeafL C i j
  | true => gLeafO C V i j
def gMul (C : Nat → Int) (i : Nat) : Prop := C i = 142 ∨ C i = 147 ∨ C i = 137
def gAdd (C : Nat → Int) (i : Nat) : Prop := C i = 143 ∨ C i = 145
def gPart (o : Bool) (C V : Nat → Int) : Nat → Nat → Nat → Prop
  | 0 => fun i j => gLeaf o C V i j
  | d + 1 => fun i j => gLeaf o C V i j ∨ (C i = 191 ∧ ∃ m : Nat, gSeq (gAdd C) (gSeq (gMul C) (gPart o C V d)) (i + 1) m ∧ C m = 193 ∧ j = m + 1)
def gSum (o : Bool) (C V : Nat → Int) (d : Nat) : Nat → Nat → Prop := gSeq (gAdd C) (gSeq (gMul C) (gPart o C V d))
def gNots (C : Nat → Int) (i m : Nat) : Prop := (∀ a : Nat, i ≤ a → a < m → C a = 7) ∧ i ≤ m ∧ ¬ C m = 7
def gCmp (o : Bool) (C V : Nat → Int) (d m j : Nat) : Prop := ¬ C m = 140 ∧ ∃ n : Nat, gSum o C V d m n ∧ (C n = 160 ∨ C n = 162 ∨ C n = 161) ∧ gSum o C V d (n + 1) j
def gPlain (o : Bool) (C V : Nat → Int) : Nat → Nat → Nat → Prop
  | 0 => fun i j => ∃ m : Nat, gNots C i m ∧ gCmp o C V 0 m j
  | d + 1 => fun i j => ∃ m : Nat, gNots C i m ∧ (gCmp o C V (d + 1) m j ∨ (C m = 140 ∧ ∃ n : Nat, gSeq (fun a => C a = 5) (gSeq (fun a => C a = 6) (gPlain o C V d)) (m + 1) n ∧ C n = 141 ∧ j = n + 1))
def gTest (o : Bool) (C V : Nat → Int) (d : Nat) : Nat → Nat → Prop := gSeq (fun a => C a = 5) (gSeq (fun a => C a = 6) (gPlain o C V d))
def gIf (o : Bool) (C V : Nat → Int) (m j : Nat) : Prop := (C m = 4 ∧ gTest o C V 8 (m + 1) j) ∨ (¬ C m = 4 ∧ j = m)
def gClause (C V : Nat → Int) (i j : Nat) : Prop := (C i = 1 ∧ ∃ m : Nat, gSum false C V 8 (i + 1) m ∧ gIf false C V m j) ∨ ((C i = 2 ∨ C i = 3) ∧ gIf false C V (i + 1) j)
def lawC (f : Nat → Int32) (e i : Nat) : Int := if i < e then (f (40 + i)).toInt else 0
def lawV (f : Nat → Int32) (i : Nat) : Int := (f (2840 + i)).toInt
def lawE (f : Nat → Int32) (t : Nat) : Nat := 400 * t + (f (33 + t)).toInt.toNat
def LawOk (f : Nat → Int32) (t : Nat) : Prop := gSeq (fun i => lawC f (lawE f t) i = 159) (gClause (lawC f (lawE f t)) (lawV f)) (400 * t) (lawE f t)
/-! what the reference's numbers are, by their places -/
def klo (i : Nat) : Int := if i < 32 then 0 else if i = 32 then -1 else if i < 40 then 0 else -2147483648
def khi (i : Nat) : Int := if i < 6 then 5 else if i < 12 then 1 else if i = 12 then 9999 else if i = 13 then 999 else if i < 26 then 5 else if i = 26 then 10 else if i = 27 then 9 else if i = 28 then 1 else if i < 32 then 6 else if i = 32 then 5 else if i < 40 then 400 else 2147483647
def f0lo (i : Nat) : Int := if i = 13 ∨ i = 32 ∨ i = 55 ∨ i = 10 ∨ i = 24 ∨ i = 25 ∨ i = 50 ∨ i = 51 ∨ i = 37 ∨ i = 38 then 0 else if i = 54 then -1 else -2147483648
def f0hi (i : Nat) : Int := if i = 13 then 400 else if i = 32 then 16 else if i = 55 then 1000002 else if i = 10 ∨ i = 24 ∨ i = 25 ∨ i = 50 ∨ i = 51 then 1 else if i = 37 then 720 else if i = 38 then 64 else if i = 54 then 6 else 2147483647
def tlo (j i : Nat) : Int := match j with
  | 0 => f0lo i
  | 2 => klo i
  | 3 => klo (i % 5640)
  | 5 => klo (i % 14)
  | 11 => 0
  | 14 => if i % 15 < 14 then klo (i % 15) else -2147483648
  | 15 => if i % 15 < 14 then klo (i % 15) else -2147483648
  | 16 => 0
  | 17 => 0
  | 18 => 0
  | 20 => -1
  | 21 => 0
  | 23 => 0
  | 27 => klo (i % 14)
  | _ => -2147483648
def thi (j i : Nat) : Int := match j with
  | 0 => f0hi i
  | 2 => khi i
  | 3 => khi (i % 5640)
  | 5 => khi (i % 14)
  | 11 => 400
  | 14 => if i % 15 < 14 then khi (i % 15) else 2147483647
  | 15 => if i % 15 < 14 then khi (i % 15) else 2147483647
  | 16 => 5
  | 17 => 719
  | 18 => 63
  | 20 => 99
  | 21 => 1000000
  | 23 => 46079
  | 27 => khi (i % 14)
  | _ => 2147483647
def TE (q : dS) : Prop := ∀ j i : Nat, tlo j i ≤ (q.1 j i).toInt ∧ (q.1 j i).toInt ≤ thi j i
def KR (f : Nat → Int32) : Prop := (f 32).toInt < (f 31).toInt ∧ ∀ t : Nat, t < 6 → (t : Int) < (f 31).toInt → LawOk f t
def wB (i : Nat) : Int32 := ([112, 97, 121, 115, 32, 98, 97, 114, 115, 32, 116, 105, 112, 115, 32, 105, 102, 32, 111, 114, 32, 97, 110, 100, 32, 110, 111, 116, 32, 103, 114, 105, 112, 32, 116, 111, 112, 32, 110, 101, 120, 116, 32, 102, 108, 111, 111, 114, 115, 32, 114, 97, 110, 107, 32, 112, 108, 97, 99, 101, 32, 109, 111, 111, 100, 32, 104, 101, 97, 100, 32, 121, 101, 97, 114, 32, 100, 111, 110, 101, 32, 108, 97, 116, 101, 115, 116, 32, 112, 97, 105, 100, 32, 103, 97, 112, 115, 32, 97, 116, 32, 116, 117, 114, 110, 32, 114, 105, 103, 104, 116, 32, 115, 119, 97, 112, 32, 112, 97, 115, 115, 32, 116, 105, 109, 101, 115, 32] : List Int32).getD i 0
def TS (q : dS) : Prop := TE q ∧ KR (q.1 2) ∧ (∀ k : Nat, k < 2 → ¬ q.1 4 k = 0 → KR (fun i => q.1 3 (5640 * k + i))) ∧ ∀ i : Nat, i < 128 → q.1 6 i = wB i
theorem KR.congr {f g : Nat → Int32} (h : ∀ i : Nat, 31 ≤ i → f i = g i) (hf : KR f) : KR g := by
  have e31 := h 31 (by omega)
  have e32 := h 32 (by omega)
  refine ⟨by rw [← e31, ← e32]; exact hf.1, fun t ht h1 => ?_⟩
  have h2 := hf.2 t ht (by rw [e31]; exact h1)
  have eE : lawE f t = lawE g t := by unfold lawE; rw [h (33 + t) (by omega)]
  have eC : lawC f (lawE f t) = lawC g (lawE g t) := by
    rw [eE]; funext i; unfold lawC; rw [h (40 + i) (by omega)]
  have eV : lawV f = lawV g := by funext i; unfold lawV; rw [h (2840 + i) (by omega)]
  unfold LawOk at *
  rw [← eE, ← eV]
  rw [eE] at eC
  rw [eE] at h2
  rw [eE, ← eC]
  exact h2
theorem te_set {q : dS} {j i : Nat} {v : Int32} (h : TE q) (h1 : tlo j i ≤ v.toInt) (h2 : v.toInt ≤ thi j i) : TE (dui q j i v) := by
  intro a b
  by_cases c : a = j
  · subst c
    by_cases c2 : b = i
    · subst c2; rw [dui_e]; exact ⟨h1, h2⟩
    · rw [dui_n c2]; exact h a b
  · rw [dui_o c]; exact h a b
theorem ts_set {q : dS} {j i : Nat} {v : Int32} (h : TS q) (hj : ¬ j = 2 ∧ ¬ j = 3 ∧ ¬ j = 4 ∧ ¬ j = 6) (h1 : tlo j i ≤ v.toInt) (h2 : v.toInt ≤ thi j i) : TS (dui q j i v) := by
  refine ⟨te_set h.1 h1 h2, ?_, ?_, ?_⟩
  · rw [dui_o (fun z => hj.1 z.symm)]; exact h.2.1
  · rw [dui_o (fun z => hj.2.1 z.symm), dui_o (fun z => hj.2.2.1 z.symm)]; exact h.2.2.1
  · rw [dui_o (fun z => hj.2.2.2 z.symm)]; exact h.2.2.2
theorem ts_set2 {q : dS} {i : Nat} {v : Int32} (h : TS q) (hi : i < 31) (h1 : klo i ≤ v.toInt) (h2 : v.toInt ≤ khi i) : TS (dui q 2 i v) := by
  refine ⟨te_set h.1 h1 h2, ?_, ?_, ?_⟩
  · rw [dui_s]
    refine KR.congr (fun a ha => ?_) h.2.1
    exact (if_neg (by omega)).symm
  · rw [dui_o (by decide), dui_o (by decide)]; exact h.2.2.1
  · rw [dui_o (by decide)]; exact h.2.2.2
theorem ts_any {q : dS} {j i : Nat} {v : Int32} (h : TS q) (hj : (j == 1 || j == 7 || j == 8 || j == 9 || j == 10 || j == 12 || j == 13 || j == 19 || j == 22 || j == 24 || j == 25) = true) : TS (dui q j i v) := by
  have hv := ti_rg v
  simp only [Bool.or_eq_true, beq_iff_eq] at hj
  rcases hj with ((((((((((hj | hj) | hj) | hj) | hj) | hj) | hj) | hj) | hj) | hj) | hj) <;> subst hj <;> exact ts_set h (by decide) hv.1 hv.2
theorem ts_f {q : dS} {k : Nat} {v : Int32} (h : TS q) (hl : f0lo k ≤ v.toInt) (hh : v.toInt ≤ f0hi k) : TS (dui q 0 k v) := ts_set h (by decide) hl hh
theorem ts_l {q : dS} {j k : Nat} {v : Int64} (h : TS q) : TS (dul q j k v) := h
theorem te_k {q : dS} (h : TS q) (i : Nat) : klo i ≤ (q.1 2 i).toInt ∧ (q.1 2 i).toInt ≤ khi i := h.1 2 i
theorem te_2r {q : dS} (h : TS q) {i : Nat} (h1 : 0 ≤ i) (h2 : i < 6) : 0 ≤ (q.1 2 i).toInt ∧ (q.1 2 i).toInt ≤ 5 := by
  have z := te_k h i
  unfold klo khi at z
  omega
theorem te_2h {q : dS} (h : TS q) {i : Nat} (h1 : 6 ≤ i) (h2 : i < 12) : 0 ≤ (q.1 2 i).toInt ∧ (q.1 2 i).toInt ≤ 1 := by
  have z := te_k h i
  unfold klo khi at z
  omega
theorem te_2s {q : dS} (h : TS q) {i : Nat} (h1 : 14 ≤ i) (h2 : i < 26) : 0 ≤ (q.1 2 i).toInt ∧ (q.1 2 i).toInt ≤ 5 := by
  have z := te_k h i
  unfold klo khi at z
  omega
theorem te_2z {q : dS} (h : TS q) {i : Nat} (h1 : 33 ≤ i) (h2 : i < 40) : 0 ≤ (q.1 2 i).toInt ∧ (q.1 2 i).toInt ≤ 400 := by
  have z := te_k h i
  unfold klo khi at z
  omega
theorem te_5 {q : dS} (h : TS q) (i : Nat) : klo (i % 14) ≤ (q.1 5 i).toInt ∧ (q.1 5 i).toInt ≤ khi (i % 14) := h.1 5 i
theorem te_27 {q : dS} (h : TS q) (i : Nat) : klo (i % 14) ≤ (q.1 27 i).toInt ∧ (q.1 27 i).toInt ≤ khi (i % 14) := h.1 27 i
theorem te_14 {q : dS} (h : TS q) {i : Nat} (h1 : i % 15 < 14) : klo (i % 15) ≤ (q.1 14 i).toInt ∧ (q.1 14 i).toInt ≤ khi (i % 15) := by
  have z := h.1 14 i
  simp only [tlo, thi, if_pos h1] at z
  exact z
theorem te_15 {q : dS} (h : TS q) {i : Nat} (h1 : i % 15 < 14) : klo (i % 15) ≤ (q.1 15 i).toInt ∧ (q.1 15 i).toInt ≤ khi (i % 15) := by
  have z := h.1 15 i
  simp only [tlo, thi, if_pos h1] at z
  exact z
theorem ts_5 {q : dS} {i s : Nat} {v : Int32} (h : TS q) (hs : i % 14 = s) (h1 : klo s ≤ v.toInt ∧ v.toInt ≤ khi s) : TS (dui q 5 i v) := by
  subst hs
  exact ts_set h (by decide) h1.1 h1.2
theorem ts_27 {q : dS} {i s : Nat} {v : Int32} (h : TS q) (hs : i % 14 = s) (h1 : klo s ≤ v.toInt ∧ v.toInt ≤ khi s) : TS (dui q 27 i v) := by
  subst hs
  exact ts_set h (by decide) h1.1 h1.2
theorem ts_14 {q : dS} {i s : Nat} {v : Int32} (h : TS q) (hs : i % 15 = s) (h0 : s < 14) (h1 : klo s ≤ v.toInt ∧ v.toInt ≤ khi s) : TS (dui q 14 i v) := by
  subst hs
  exact ts_set h (by decide) (by simp only [tlo, if_pos h0]; exact h1.1) (by simp only [thi, if_pos h0]; exact h1.2)
theorem ts_14x {q : dS} {i : Nat} {v : Int32} (h : TS q) (h0 : ¬ i % 15 < 14) : TS (dui q 14 i v) :=
  ts_set h (by decide) (by simp only [tlo, if_neg h0]; exact (ti_rg v).1) (by simp only [thi, if_neg h0]; exact (ti_rg v).2)
theorem ts_15 {q : dS} {i s : Nat} {v : Int32} (h : TS q) (hs : i % 15 = s) (h0 : s < 14) (h1 : klo s ≤ v.toInt ∧ v.toInt ≤ khi s) : TS (dui q 15 i v) := by
  subst hs
  exact ts_set h (by decide) (by simp only [tlo, if_pos h0]; exact h1.1) (by simp only [thi, if_pos h0]; exact h1.2)
theorem ts_15x {q : dS} {i : Nat} {v : Int32} (h : TS q) (h0 : ¬ i % 15 < 14) : TS (dui q 15 i v) :=
  ts_set h (by decide) (by simp only [tlo, if_neg h0]; exact (ti_rg v).1) (by simp only [thi, if_neg h0]; exact (ti_rg v).2)
theorem ts_2c {q : dS} {i s : Nat} {v : Int32} (h : TS q) (hi : i < 31) (hs : i = s) (h1 : klo s ≤ v.toInt ∧ v.toInt ≤ khi s) : TS (dui q 2 i v) := by
  subst hs
  exact ts_set2 h hi h1.1 h1.2
theorem ts_force {q : dS} {v : Int32} (h : TS q) (h1 : -1 ≤ v.toInt) (h2 : v.toInt < (q.1 2 31).toInt) : TS (dui q 2 32 v) := by
  have h3 := te_k h 31
  have e1 : khi 31 = 6 := by decide
  refine ⟨te_set h.1 (by show klo 32 ≤ _; unfold klo; omega) (by show _ ≤ khi 32; unfold khi; omega), ?_, ?_, ?_⟩
  · rw [dui_s]
    refine ⟨?_, fun t ht h4 => ?_⟩
    · show (if 32 = 32 then v else q.1 2 32).toInt < (if 31 = 32 then v else q.1 2 31).toInt
      rw [if_pos rfl, if_neg (by decide)]; exact h2
    · have h5 := h.2.1.2 t ht h4
      have eE : lawE (upd (q.1 2) 32 v) t = lawE (q.1 2) t := by
        unfold lawE
        rw [show upd (q.1 2) 32 v (33 + t) = q.1 2 (33 + t) from if_neg (by omega)]
      have eC : lawC (upd (q.1 2) 32 v) (lawE (q.1 2) t) = lawC (q.1 2) (lawE (q.1 2) t) := by
        funext i; unfold lawC
        rw [show upd (q.1 2) 32 v (40 + i) = q.1 2 (40 + i) from if_neg (by omega)]
      have eV : lawV (upd (q.1 2) 32 v) = lawV (q.1 2) := by
        funext i; unfold lawV
        rw [show upd (q.1 2) 32 v (2840 + i) = q.1 2 (2840 + i) from if_neg (by omega)]
      unfold LawOk
      rw [eE, eC, eV]
      exact h5
  · rw [dui_o (by decide), dui_o (by decide)]; exact h.2.2.1
  · rw [dui_o (by decide)]; exact h.2.2.2
theorem fac_step {x1 x2 : Int32} (h : (x2.toInt = 2 ∧ x1.toInt = 1) ∨ (x2.toInt = 3 ∧ x1.toInt = 2) ∨ (x2.toInt = 4 ∧ x1.toInt = 6) ∨ (x2.toInt = 5 ∧ x1.toInt = 24) ∨ (x2.toInt = 6 ∧ x1.toInt = 120) ∨ (x2.toInt = 7 ∧ x1.toInt = 720)) :
    (x2.toInt = 2 ∧ (x1 * x2).toInt = 2) ∨ (x2.toInt = 3 ∧ (x1 * x2).toInt = 6) ∨ (x2.toInt = 4 ∧ (x1 * x2).toInt = 24) ∨ (x2.toInt = 5 ∧ (x1 * x2).toInt = 120) ∨ (x2.toInt = 6 ∧ (x1 * x2).toInt = 720) ∨ x2.toInt = 7 := by
  rcases h with ⟨h1, h2⟩ | ⟨h1, h2⟩ | ⟨h1, h2⟩ | ⟨h1, h2⟩ | ⟨h1, h2⟩ | ⟨h1, h2⟩
  · have := ti_mul h2 h1 (by decide) (by decide); omega
  · have := ti_mul h2 h1 (by decide) (by decide); omega
  · have := ti_mul h2 h1 (by decide) (by decide); omega
  · have := ti_mul h2 h1 (by decide) (by decide); omega
  · have := ti_mul h2 h1 (by decide) (by decide); omega
  · omega
/-! numbers of orders -/
def nbf (n : Nat) : Nat → Nat
  | 0 => 1
  | a + 1 => nbf n a * (n - a)
theorem nbf_le : ∀ n : Nat, n ≤ 6 → ∀ a : Nat, a ≤ n → nbf n a ≤ 720 ∧ nbf n n ≤ 720 := by decide +kernel
theorem nbf_fac : ∀ n : Nat, n ≤ 6 → (n ≤ 1 ∧ nbf n n = 1) ∨ (n = 2 ∧ nbf n n = 2) ∨ (n = 3 ∧ nbf n n = 6) ∨ (n = 4 ∧ nbf n n = 24) ∨ (n = 5 ∧ nbf n n = 120) ∨ (n = 6 ∧ nbf n n = 720) := by decide +kernel
def NB (n a v : Int) : Prop := 0 ≤ v ∧ 0 ≤ a ∧ a ≤ n ∧ n ≤ 6 ∧ v < (nbf n.toNat a.toNat : Nat)
theorem NB_0 {n : Int} (h0 : 0 ≤ n) (h : n ≤ 6) : NB n 0 0 := ⟨by decide, by decide, h0, h, by show (0 : Int) < ((1 : Nat) : Int); decide⟩
theorem NB_r {n a v : Int} (h : NB n a v) : 0 ≤ v ∧ v ≤ 719 ∧ a ≤ n ∧ 0 ≤ a := by
  obtain ⟨h1, h2, h3, h4, h5⟩ := h
  have := (nbf_le n.toNat (by omega) a.toNat (by omega)).1
  omega
theorem NB_m {n a v : Int} (h : NB n a v) (w : Int) (hw : 0 ≤ w) (hw2 : w ≤ 6) : 0 ≤ v * w ∧ v * w ≤ 4314 := by
  have h1 := NB_r h
  constructor
  · exact Int.mul_nonneg h1.1 hw
  · have : v * w ≤ 719 * 6 := Int.mul_le_mul h1.2.1 hw2 hw (by decide)
    omega
theorem NB_s {n a v l w u : Int} (h : NB n a v) (ha : a < n) (h0 : 0 ≤ l) (hl : l ≤ n - 1 - a) (hw : w = n - a) (hu : u = v * w + l) : NB n (a + 1) u := by
  obtain ⟨h1, h2, h3, h4, h5⟩ := h
  subst hw hu
  have h6 : (a + 1).toNat = a.toNat + 1 := by omega
  have h7 : 0 ≤ v * (n - a) := Int.mul_nonneg h1 (by omega)
  refine ⟨by omega, by omega, by omega, h4, ?_⟩
  rw [h6]
  show v * (n - a) + l < ((nbf n.toNat a.toNat * (n.toNat - a.toNat) : Nat) : Int)
  have h8 : ((nbf n.toNat a.toNat * (n.toNat - a.toNat) : Nat) : Int) = (nbf n.toNat a.toNat : Int) * (n - a) := by
    rw [Int.natCast_mul]
    congr 1
    omega
  rw [h8]
  have h9 : (v + 1) * (n - a) ≤ (nbf n.toNat a.toNat : Int) * (n - a) := Int.mul_le_mul_of_nonneg_right (by omega) (by omega)
  rw [Int.add_mul] at h9
  omega
theorem NB_s2 {n a v : Int} (l w : Int) {u b : Int} (h : NB n a v) (ha : a < n) (h0 : 0 ≤ l) (hl : l ≤ n - 1 - a) (hw : w = n - a) (hb : b = a + 1) (hu : u = v * w + l) : NB n b u := by
  subst hb
  exact NB_s h ha h0 hl hw hu
theorem NB_e {n a v : Int} (h : NB n a v) (h2 : n ≤ a) : NB n n v := by
  have h3 := NB_r h
  have e : a = n := by omega
  rw [e] at h
  exact h
theorem ts_cp {q q' : dS} {i s : Nat} {v : Int32} (j j0 : Nat) (hj : j = 14 ∨ j = 15) (hj0 : j0 = 14 ∨ j0 = 15) (h : TS q) (h0 : TS q') (hs : i % 15 = s % 15) (hv : v = q'.1 j0 s) : TS (dui q j i v) := by
  by_cases c : i % 15 < 14
  · have c2 : s % 15 < 14 := by omega
    have h1 : klo (s % 15) ≤ v.toInt ∧ v.toInt ≤ khi (s % 15) := by
      rw [hv]
      rcases hj0 with e | e <;> subst e
      · exact te_14 h0 c2
      · exact te_15 h0 c2
    rcases hj with e | e <;> subst e
    · exact ts_14 h hs c2 h1
    · exact ts_15 h hs c2 h1
  · rcases hj with e | e <;> subst e
    · exact ts_14x h c
    · exact ts_15x h c
end
section
set_option maxHeartbeats 4000000 in
set_option maxRecDepth 100000 in
theorem ok_lies (p1 : Int32) (p2 : Int32) (p3 : Int32) : dOk (zX10_lies p1 p2 p3) (fun (o : Int32) => ((Int32.toInt o = 1 ∧ Int32.toInt p2 ≤ Int32.toInt p1 ∧ Int32.toInt p1 ≤ Int32.toInt p3) ∨ (Int32.toInt o = 0 ∧ (Int32.toInt p1 < Int32.toInt p2 ∨ Int32.toInt p3 < Int32.toInt p1)))) := by
  unfold zX10_lies
  refine dOk_lt (A := Int32.toInt p1) (B := Int32.toInt p2) rfl rfl (fun c_1 => ?_) (fun c_2 => ?_)
  · unfold zX10_lies_14
    unfold zX10_lies_15
    refine dOk_G (dbl_ok (show (0 : Int) = 0 ∨ (0 : Int) = 1 by omega)) ?_
    exact dOk_some (show (((0 : Int) = 1 ∧ Int32.toInt p2 ≤ Int32.toInt p1 ∧ Int32.toInt p1 ≤ Int32.toInt p3) ∨ ((0 : Int) = 0 ∧ (Int32.toInt p1 < Int32.toInt p2 ∨ Int32.toInt p3 < Int32.toInt p1))) from (by omega))
  · refine dOk_lt (A := Int32.toInt p3) (B := Int32.toInt p1) rfl rfl (fun c_3 => ?_) (fun c_4 => ?_)
    · unfold zX10_lies_14
      unfold zX10_lies_15
      refine dOk_G (dbl_ok (show (0 : Int) = 0 ∨ (0 : Int) = 1 by omega)) ?_
      exact dOk_some (show (((0 : Int) = 1 ∧ Int32.toInt p2 ≤ Int32.toInt p1 ∧ Int32.toInt p1 ≤ Int32.toInt p3) ∨ ((0 : Int) = 0 ∧ (Int32.toInt p1 < Int32.toInt p2 ∨ Int32.toInt p3 < Int32.toInt p1))) from (by omega))
    · unfold zX10_lies_15
      refine dOk_G (dbl_ok (show (1 : Int) = 0 ∨ (1 : Int) = 1 by omega)) ?_
      exact dOk_some (show (((1 : Int) = 1 ∧ Int32.toInt p2 ≤ Int32.toInt p1 ∧ Int32.toInt p1 ≤ Int32.toInt p3) ∨ ((1 : Int) = 0 ∧ (Int32.toInt p1 < Int32.toInt p2 ∨ Int32.toInt p3 < Int32.toInt p1))) from (by omega))

set_option maxHeartbeats 4000000 in
set_option maxRecDepth 100000 in
theorem ok_lesser (p1 : Int32) (p2 : Int32) : dOk (zX10_lesser p1 p2) (fun (o : Int32) => (Int32.toInt o ≤ Int32.toInt p1 ∧ Int32.toInt o ≤ Int32.toInt p2 ∧ (Int32.toInt o = Int32.toInt p1 ∨ Int32.toInt o = Int32.toInt p2))) := by
  unfold zX10_lesser
  refine dOk_le (A := Int32.toInt p2) (B := Int32.toInt p1) rfl rfl (fun c_1 => ?_) (fun c_2 => ?_)
  · unfold zX10_lesser_10
    exact dOk_some (show (Int32.toInt p2 ≤ Int32.toInt p1 ∧ Int32.toInt p2 ≤ Int32.toInt p2 ∧ (Int32.toInt p2 = Int32.toInt p1 ∨ Int32.toInt p2 = Int32.toInt p2)) from (by omega))
  · unfold zX10_lesser_10
    exact dOk_some (show (Int32.toInt p1 ≤ Int32.toInt p1 ∧ Int32.toInt p1 ≤ Int32.toInt p2 ∧ (Int32.toInt p1 = Int32.toInt p1 ∨ Int32.toInt p1 = Int32.toInt p2)) from (by omega))

set_option maxHeartbeats 4000000 in
set_option maxRecDepth 100000 in
theorem ok_greater (p1 : Int32) (p2 : Int32) : dOk (zX10_greater p1 p2) (fun (o : Int32) => (Int32.toInt p1 ≤ Int32.toInt o ∧ Int32.toInt p2 ≤ Int32.toInt o ∧ (Int32.toInt o = Int32.toInt p1 ∨ Int32.toInt o = Int32.toInt p2))) := by
  unfold zX10_greater
  refine dOk_le (A := Int32.toInt p1) (B := Int32.toInt p2) rfl rfl (fun c_1 => ?_) (fun c_2 => ?_)
  · unfold zX10_greater_10
    exact dOk_some (show (Int32.toInt p1 ≤ Int32.toInt p2 ∧ Int32.toInt p2 ≤ Int32.toInt p2 ∧ (Int32.toInt p2 = Int32.toInt p1 ∨ Int32.toInt p2 = Int32.toInt p2)) from (by omega))
  · unfold zX10_greater_10
    exact dOk_some (show (Int32.toInt p1 ≤ Int32.toInt p1 ∧ Int32.toInt p2 ≤ Int32.toInt p1 ∧ (Int32.toInt p1 = Int32.toInt p1 ∨ Int32.toInt p1 = Int32.toInt p2)) from (by omega))

set_option maxHeartbeats 4000000 in
set_option maxRecDepth 100000 in
theorem ok_refuses (q : dS) (p1 : Int32) (hT : TS q) (hp0 : (-6) ≤ Int32.toInt p1) (hp1 : Int32.toInt p1 ≤ 0) : dOk (zX10_refuses q p1) (fun (o : Int32 × dS) => (TS o.2) ∧ (dFr [1] [0] q o.2) ∧ (Int32.toInt o.1 = Int32.toInt p1)) := by
  unfold zX10_refuses
  refine dOk_L (fun q_1 eq_1 => ?_)
  have hTq_1 : TS q_1 := by rw [eq_1]; exact ts_f hT (ti_rg _).1 (ti_rg _).2
  have hFq_1 : dFr [1] [0] q q_1 := by rw [eq_1]; exact (dFr.rf (q := q)).f (by decide)
  try have t_2 : Int32.toInt ((-p1)) = -Int32.toInt p1 := ti_neg rfl (by omega) (by omega)
  refine dOk_G (dg_ok (show 0 ≤ Int32.toInt (-p1) by omega) (show Int32.toInt (-p1) < ((7 : Nat) : Int) by omega)) ?_
  have n_3 : ((Int32.toNatClampNeg (-p1) : Nat) : Int) = Int32.toInt (-p1) := cl_eq (by omega)
  refine dOk_L (fun v_4 ev_4 => ?_)
  refine dOk_G (dg_ok (show 0 ≤ Int32.toInt (-p1) by omega) (show Int32.toInt (-p1) < ((7 : Nat) : Int) by omega)) ?_
  refine dOk_L (fun q_5 eq_5 => ?_)
  have hTq_5 : TS q_5 := by rw [eq_5]; exact ts_any hTq_1 rfl
  have hFq_5 : dFr [1] [0] q q_5 := by rw [eq_5]; exact hFq_1.i (by decide) (by decide)
  exact dOk_some (show (TS q_5) ∧ (dFr [1] [0] q q_5) ∧ (Int32.toInt p1 = Int32.toInt p1) from ⟨hTq_5, hFq_5, by omega⟩)

set_option maxHeartbeats 4000000 in
set_option maxRecDepth 100000 in
theorem ok_good (q : dS) (p1 : Int32) (hT : TS q) : dOk (zX10_good q p1) (fun (o : Int32 × dS) => (TS o.2) ∧ (dFr [] [0] q o.2) ∧ (Int32.toInt o.1 = Int32.toInt p1)) := by
  unfold zX10_good
  refine dOk_L (fun q_1 eq_1 => ?_)
  have hTq_1 : TS q_1 := by rw [eq_1]; exact ts_f hT (ti_rg _).1 (ti_rg _).2
  have hFq_1 : dFr [] [0] q q_1 := by rw [eq_1]; exact (dFr.rf (q := q)).f (by decide)
  exact dOk_some (show (TS q_1) ∧ (dFr [] [0] q q_1) ∧ (Int32.toInt p1 = Int32.toInt p1) from ⟨hTq_1, hFq_1, by omega⟩)

set_option maxHeartbeats 4000000 in
set_option maxRecDepth 100000 in
theorem ok_settled (q : dS) (p1 : Int32) (hT : TS q) : dOk (zX10_settled q p1) (fun (o : Int32 × dS) => (TS o.2) ∧ (dFr [] [0, 32] q o.2) ∧ (Int32.toInt o.1 = Int32.toInt p1)) := by
  unfold zX10_settled
  refine dOk_L (fun q_1 eq_1 => ?_)
  have hTq_1 : TS q_1 := by rw [eq_1]; exact ts_f hT (show 0 ≤ (0 : Int) by omega) (show (0 : Int) ≤ 16 by omega)
  have hFq_1 : dFr [] [0, 32] q q_1 := by rw [eq_1]; exact (dFr.rf (q := q)).f (by decide)
  refine dOk_B (ok_good q_1 p1 hTq_1) (fun r_2 q_3 h_4 => ?_)
  replace h_4 : (TS q_3) ∧ (dFr [] [0] q_1 q_3) ∧ (Int32.toInt r_2 = Int32.toInt p1) := h_4
  obtain ⟨i_5, i_6, i_7⟩ := h_4
  have hFq_3 : dFr [] [0, 32] q q_3 := hFq_1.t i_6 (by decide) (by decide)
  exact dOk_some (show (TS q_3) ∧ (dFr [] [0, 32] q q_3) ∧ (Int32.toInt r_2 = Int32.toInt p1) from ⟨i_5, hFq_3, by omega⟩)

set_option maxHeartbeats 4000000 in
set_option maxRecDepth 100000 in
theorem ok_isIn (p1 : Int32) (p2 : Int32) : dOk (zX10_isIn p1 p2) (fun (o : Int32) => ((Int32.toInt o = 0 ∨ Int32.toInt o = 1))) := by
  unfold zX10_isIn
  have t_1 := ti_and1 (p1 >>> ((p2 : Int32) &&& 31))
  refine dOk_eq (A := Int32.toInt (p1 >>> ((p2 : Int32) &&& 31) &&& 1)) (B := 1) rfl (by decide) (fun c_2z c_2 => ?_) (fun c_3z c_3 => ?_)
  · unfold zX10_isIn_14
    refine dOk_G (dbl_ok (show (1 : Int) = 0 ∨ (1 : Int) = 1 by omega)) ?_
    exact dOk_some (show (((1 : Int) = 0 ∨ (1 : Int) = 1)) from (by omega))
  · unfold zX10_isIn_14
    refine dOk_G (dbl_ok (show (0 : Int) = 0 ∨ (0 : Int) = 1 by omega)) ?_
    exact dOk_some (show (((0 : Int) = 0 ∨ (0 : Int) = 1)) from (by omega))

set_option maxHeartbeats 4000000 in
set_option maxRecDepth 100000 in
theorem ok_ones (p1 : Int32) : dOk (zX10_ones p1) (fun (o : Int32) => (0 ≤ Int32.toInt o ∧ Int32.toInt o ≤ 7)) := by
  unfold zX10_ones
  unfold zX10_ones_4
  refine dFix_ok (fun (a : Int32 × Int32 × Int32) => (a.1 = p1) ∧ (0 ≤ Int32.toInt a.2.2) ∧ (Int32.toInt a.2.2 ≤ 7) ∧ (0 ≤ Int32.toInt a.2.1) ∧ (Int32.toInt a.2.1 ≤ Int32.toInt a.2.2)) (fun (a : Int32 × Int32 × Int32) => (7 - Int32.toInt a.2.2).toNat) ?_ _ ?_ _ (dF_gt ?_)
  · intro a ha k_2 hk_1
    obtain ⟨x0_3, x1_4, x2_5⟩ := a
    replace ha : (x0_3 = p1) ∧ (0 ≤ Int32.toInt x2_5) ∧ (Int32.toInt x2_5 ≤ 7) ∧ (0 ≤ Int32.toInt x1_4) ∧ (Int32.toInt x1_4 ≤ Int32.toInt x2_5) := ha
    obtain ⟨a_6, a_7, a_8, a_9, a_10⟩ := ha
    show dOk (zX10_ones_4b  (fun x0 x1 x2 => k_2 (x0, x1, x2)) x0_3 x1_4 x2_5) _
    unfold zX10_ones_4b
    subst x0_3
    refine dOk_le (A := 7) (B := Int32.toInt x2_5) (by decide) rfl (fun c_11 => ?_) (fun c_12 => ?_)
    · exact dOk_some (show (0 ≤ Int32.toInt x1_4 ∧ Int32.toInt x1_4 ≤ 7) from (by omega))
    · have t_13 := ti_and1 (p1 >>> ((x2_5 : Int32) &&& 31))
      try have t_14 : Int32.toInt (x1_4 + (p1 >>> ((x2_5 : Int32) &&& 31) &&& 1)) = Int32.toInt x1_4 + Int32.toInt (p1 >>> ((x2_5 : Int32) &&& 31) &&& 1) := ti_add rfl rfl (by omega) (by omega)
      try have t_15 : Int32.toInt (x2_5 + 1) = Int32.toInt x2_5 + 1 := ti_add rfl (by decide) (by omega) (by omega)
      exact hk_1 (p1, (x1_4 + (p1 >>> ((x2_5 : Int32) &&& 31) &&& 1)), (x2_5 + 1)) (show (p1 = p1) ∧ (0 ≤ Int32.toInt (x2_5 + 1)) ∧ (Int32.toInt (x2_5 + 1) ≤ 7) ∧ (0 ≤ Int32.toInt (x1_4 + (p1 >>> ((x2_5 : Int32) &&& 31) &&& 1))) ∧ (Int32.toInt (x1_4 + (p1 >>> ((x2_5 : Int32) &&& 31) &&& 1)) ≤ Int32.toInt (x2_5 + 1)) from ⟨rfl, by omega, by omega, by omega, by omega⟩) (show (7 - Int32.toInt (x2_5 + 1)).toNat < (7 - Int32.toInt x2_5).toNat by omega)
  · exact (show (p1 = p1) ∧ (0 ≤ (0 : Int)) ∧ ((0 : Int) ≤ 7) ∧ (0 ≤ (0 : Int)) ∧ ((0 : Int) ≤ (0 : Int)) from ⟨rfl, by omega, by omega, by omega, by omega⟩)
  · show (7 - (0 : Int)).toNat < 1000000000000
    omega
end
section
set_option maxHeartbeats 4000000 in
set_option maxRecDepth 100000 in
theorem ok_isBit (p1 : Int32) : dOk (zX10_isBit p1) (fun (o : Int32) => ((Int32.toInt o = 1 ∧ 0 ≤ Int32.toInt p1 ∧ Int32.toInt p1 ≤ 1) ∨ (Int32.toInt o = 0 ∧ (Int32.toInt p1 < 0 ∨ 1 < Int32.toInt p1)))) := by
  unfold zX10_isBit
  refine dOk_V (ok_lies p1 0 1) (fun r_1 h_2 => ?_)
  replace h_2 : ((Int32.toInt r_1 = 1 ∧ (0 : Int) ≤ Int32.toInt p1 ∧ Int32.toInt p1 ≤ (1 : Int)) ∨ (Int32.toInt r_1 = 0 ∧ (Int32.toInt p1 < (0 : Int) ∨ (1 : Int) < Int32.toInt p1))) := h_2
  have i_3 := h_2
  refine dOk_G (dbl_ok (show Int32.toInt r_1 = 0 ∨ Int32.toInt r_1 = 1 by omega)) ?_
  exact dOk_some (show ((Int32.toInt r_1 = 1 ∧ 0 ≤ Int32.toInt p1 ∧ Int32.toInt p1 ≤ 1) ∨ (Int32.toInt r_1 = 0 ∧ (Int32.toInt p1 < 0 ∨ 1 < Int32.toInt p1))) from (by omega))

set_option maxHeartbeats 4000000 in
set_option maxRecDepth 100000 in
theorem ok_isRank (p1 : Int32) : dOk (zX10_isRank p1) (fun (o : Int32) => ((Int32.toInt o = 1 ∧ 0 ≤ Int32.toInt p1 ∧ Int32.toInt p1 ≤ 5) ∨ (Int32.toInt o = 0 ∧ (Int32.toInt p1 < 0 ∨ 5 < Int32.toInt p1)))) := by
  unfold zX10_isRank
  refine dOk_V (ok_lies p1 0 5) (fun r_1 h_2 => ?_)
  replace h_2 : ((Int32.toInt r_1 = 1 ∧ (0 : Int) ≤ Int32.toInt p1 ∧ Int32.toInt p1 ≤ (5 : Int)) ∨ (Int32.toInt r_1 = 0 ∧ (Int32.toInt p1 < (0 : Int) ∨ (5 : Int) < Int32.toInt p1))) := h_2
  have i_3 := h_2
  refine dOk_G (dbl_ok (show Int32.toInt r_1 = 0 ∨ Int32.toInt r_1 = 1 by omega)) ?_
  exact dOk_some (show ((Int32.toInt r_1 = 1 ∧ 0 ≤ Int32.toInt p1 ∧ Int32.toInt p1 ≤ 5) ∨ (Int32.toInt r_1 = 0 ∧ (Int32.toInt p1 < 0 ∨ 5 < Int32.toInt p1))) from (by omega))

set_option maxHeartbeats 4000000 in
set_option maxRecDepth 100000 in
theorem ok_laysAside (q : dS) (p1 : Int32) (hT : TS q) (hp0 : 0 ≤ Int32.toInt p1) (hp1 : Int32.toInt p1 ≤ 1) : dOk (zX10_laysAside q p1) (fun (o : dS) => (TS o) ∧ (dFr [5] [] q o)) := by
  unfold zX10_laysAside
  unfold zX10_laysAside_2
  refine dFix_ok (fun (a : dS × Int32 × Int32) => (TS a.1) ∧ (dFr [5] [] q a.1) ∧ (a.2.1 = p1) ∧ (0 ≤ Int32.toInt a.2.2) ∧ (Int32.toInt a.2.2 ≤ 14)) (fun (a : dS × Int32 × Int32) => (14 - Int32.toInt a.2.2).toNat) ?_ _ ?_ _ (dF_gt ?_)
  · intro a ha k_2 hk_1
    obtain ⟨q_3, x1_4, x2_5⟩ := a
    replace ha : (TS q_3) ∧ (dFr [5] [] q q_3) ∧ (x1_4 = p1) ∧ (0 ≤ Int32.toInt x2_5) ∧ (Int32.toInt x2_5 ≤ 14) := ha
    obtain ⟨a_6, a_7, a_8, a_9, a_10⟩ := ha
    show dOk (zX10_laysAside_2b  (fun q x1 x2 => k_2 (q, x1, x2)) q_3 x1_4 x2_5) _
    unfold zX10_laysAside_2b
    have hFq_3 : dFr [5] [] q q_3 := (dFr.rf (q := q)).t a_7 (by decide) (by decide)
    subst x1_4
    refine dOk_le (A := 14) (B := Int32.toInt x2_5) (by decide) rfl (fun c_11 => ?_) (fun c_12 => ?_)
    · exact dOk_some (show (TS q_3) ∧ (dFr [5] [] q q_3) from ⟨a_6, hFq_3⟩)
    · refine dOk_G (dg_ok (show 0 ≤ Int32.toInt x2_5 by omega) (show Int32.toInt x2_5 < ((5640 : Nat) : Int) by omega)) ?_
      have n_13 : ((Int32.toNatClampNeg x2_5 : Nat) : Int) = Int32.toInt x2_5 := cl_eq (by omega)
      refine dOk_L (fun v_14 ev_14 => ?_)
      try have g_15 : klo (Int32.toNatClampNeg x2_5) ≤ Int32.toInt v_14 ∧ Int32.toInt v_14 ≤ khi (Int32.toNatClampNeg x2_5) := by rw [ev_14]; exact te_k a_6 _
      try have f_16 : 0 ≤ Int32.toInt v_14 ∧ Int32.toInt v_14 ≤ 5 := by rw [ev_14]; exact te_2r a_6 (by omega) (by omega)
      try have f_17 : 0 ≤ Int32.toInt v_14 ∧ Int32.toInt v_14 ≤ 1 := by rw [ev_14]; exact te_2h a_6 (by omega) (by omega)
      try have f_18 : 0 ≤ Int32.toInt v_14 ∧ Int32.toInt v_14 ≤ 5 := by rw [ev_14]; exact te_2s a_6 (by omega) (by omega)
      try have f_19 : 0 ≤ Int32.toInt v_14 ∧ Int32.toInt v_14 ≤ 400 := by rw [ev_14]; exact te_2z a_6 (by omega) (by omega)
      try have t_20 : Int32.toInt (14 * p1) = 14 * Int32.toInt p1 := ti_mul (by decide) rfl (by omega) (by omega)
      try have t_21 : Int32.toInt (14 * p1 + x2_5) = Int32.toInt (14 * p1) + Int32.toInt x2_5 := ti_add rfl rfl (by omega) (by omega)
      refine dOk_G (dg_ok (show 0 ≤ Int32.toInt (14 * p1 + x2_5) by omega) (show Int32.toInt (14 * p1 + x2_5) < ((28 : Nat) : Int) by omega)) ?_
      have n_22 : ((Int32.toNatClampNeg (14 * p1 + x2_5) : Nat) : Int) = Int32.toInt (14 * p1 + x2_5) := cl_eq (by omega)
      refine dOk_L (fun q_23 eq_23 => ?_)
      have hTq_23 : TS q_23 := by rw [eq_23]; first | exact ts_5 a_6 (show (Int32.toNatClampNeg (14 * p1 + x2_5)) % 14 = Int32.toNatClampNeg x2_5 by omega) g_15 | exact ts_set a_6 (by decide) (by simp only [tlo, klo]; omega) (by simp only [thi, khi]; omega)
      have hFq_23 : dFr [5] [] q q_23 := by rw [eq_23]; exact hFq_3.i (by decide) (by decide)
      try have t_24 : Int32.toInt (x2_5 + 1) = Int32.toInt x2_5 + 1 := ti_add rfl (by decide) (by omega) (by omega)
      exact hk_1 (q_23, p1, (x2_5 + 1)) (show (TS q_23) ∧ (dFr [5] [] q q_23) ∧ (p1 = p1) ∧ (0 ≤ Int32.toInt (x2_5 + 1)) ∧ (Int32.toInt (x2_5 + 1) ≤ 14) from ⟨hTq_23, (by rw [eq_23]; exact (((dFr.rf : dFr [5] [] q q).t a_7 (by decide) (by decide)) : dFr [5] [] q q_3).i (by decide) (by decide)), rfl, by omega, by omega⟩) (show (14 - Int32.toInt (x2_5 + 1)).toNat < (14 - Int32.toInt x2_5).toNat by omega)
  · exact (show (TS q) ∧ (dFr [5] [] q q) ∧ (p1 = p1) ∧ (0 ≤ (0 : Int)) ∧ ((0 : Int) ≤ 14) from ⟨hT, dFr.rf, rfl, by omega, by omega⟩)
  · show (14 - (0 : Int)).toNat < 1000000000000
    omega

set_option maxHeartbeats 4000000 in
set_option maxRecDepth 100000 in
theorem ok_takesBack (q : dS) (p1 : Int32) (hT : TS q) (hp0 : 0 ≤ Int32.toInt p1) (hp1 : Int32.toInt p1 ≤ 1) : dOk (zX10_takesBack q p1) (fun (o : dS) => (TS o) ∧ (dFk [2] [] q o)) := by
  unfold zX10_takesBack
  unfold zX10_takesBack_2
  refine dFix_ok (fun (a : dS × Int32 × Int32) => (TS a.1) ∧ (dFk [2] [] q a.1) ∧ (a.2.1 = p1) ∧ (0 ≤ Int32.toInt a.2.2) ∧ (Int32.toInt a.2.2 ≤ 14)) (fun (a : dS × Int32 × Int32) => (14 - Int32.toInt a.2.2).toNat) ?_ _ ?_ _ (dF_gt ?_)
  · intro a ha k_2 hk_1
    obtain ⟨q_3, x1_4, x2_5⟩ := a
    replace ha : (TS q_3) ∧ (dFk [2] [] q q_3) ∧ (x1_4 = p1) ∧ (0 ≤ Int32.toInt x2_5) ∧ (Int32.toInt x2_5 ≤ 14) := ha
    obtain ⟨a_6, a_7, a_8, a_9, a_10⟩ := ha
    show dOk (zX10_takesBack_2b  (fun q x1 x2 => k_2 (q, x1, x2)) q_3 x1_4 x2_5) _
    unfold zX10_takesBack_2b
    have hFq_3 : dFk [2] [] q q_3 := (dFk.rf (q := q)).t a_7 (by decide) (by decide)
    subst x1_4
    refine dOk_le (A := 14) (B := Int32.toInt x2_5) (by decide) rfl (fun c_11 => ?_) (fun c_12 => ?_)
    · exact dOk_some (show (TS q_3) ∧ (dFk [2] [] q q_3) from ⟨a_6, hFq_3⟩)
    · try have t_13 : Int32.toInt (14 * p1) = 14 * Int32.toInt p1 := ti_mul (by decide) rfl (by omega) (by omega)
      try have t_14 : Int32.toInt (14 * p1 + x2_5) = Int32.toInt (14 * p1) + Int32.toInt x2_5 := ti_add rfl rfl (by omega) (by omega)
      refine dOk_G (dg_ok (show 0 ≤ Int32.toInt (14 * p1 + x2_5) by omega) (show Int32.toInt (14 * p1 + x2_5) < ((28 : Nat) : Int) by omega)) ?_
      have n_15 : ((Int32.toNatClampNeg (14 * p1 + x2_5) : Nat) : Int) = Int32.toInt (14 * p1 + x2_5) := cl_eq (by omega)
      refine dOk_L (fun v_16 ev_16 => ?_)
      try have g_17 : klo ((Int32.toNatClampNeg (14 * p1 + x2_5)) % 14) ≤ Int32.toInt v_16 ∧ Int32.toInt v_16 ≤ khi ((Int32.toNatClampNeg (14 * p1 + x2_5)) % 14) := by rw [ev_16]; exact te_5 a_6 _
      refine dOk_G (dg_ok (show 0 ≤ Int32.toInt x2_5 by omega) (show Int32.toInt x2_5 < ((5640 : Nat) : Int) by omega)) ?_
      have n_18 : ((Int32.toNatClampNeg x2_5 : Nat) : Int) = Int32.toInt x2_5 := cl_eq (by omega)
      refine dOk_L (fun q_19 eq_19 => ?_)
      have hTq_19 : TS q_19 := by rw [eq_19]; first | exact ts_2c a_6 (by omega) (show Int32.toNatClampNeg x2_5 = (Int32.toNatClampNeg (14 * p1 + x2_5)) % 14 by omega) g_17 | exact ts_set2 a_6 (by omega) (show klo (Int32.toNatClampNeg x2_5) ≤ Int32.toInt v_16 by unfold klo; omega) (show Int32.toInt v_16 ≤ khi (Int32.toNatClampNeg x2_5) by unfold khi; omega)
      have hFq_19 : dFk [2] [] q q_19 := by rw [eq_19]; exact hFq_3.k (by omega) (by decide)
      try have t_20 : Int32.toInt (x2_5 + 1) = Int32.toInt x2_5 + 1 := ti_add rfl (by decide) (by omega) (by omega)
      exact hk_1 (q_19, p1, (x2_5 + 1)) (show (TS q_19) ∧ (dFk [2] [] q q_19) ∧ (p1 = p1) ∧ (0 ≤ Int32.toInt (x2_5 + 1)) ∧ (Int32.toInt (x2_5 + 1) ≤ 14) from ⟨hTq_19, (by rw [eq_19]; exact (((dFk.rf : dFk [2] [] q q).t a_7 (by decide) (by decide)) : dFk [2] [] q q_3).k (by omega) (by decide)), rfl, by omega, by omega⟩) (show (14 - Int32.toInt (x2_5 + 1)).toNat < (14 - Int32.toInt x2_5).toNat by omega)
  · exact (show (TS q) ∧ (dFk [2] [] q q) ∧ (p1 = p1) ∧ (0 ≤ (0 : Int)) ∧ ((0 : Int) ≤ 14) from ⟨hT, dFk.rf, rfl, by omega, by omega⟩)
  · show (14 - (0 : Int)).toNat < 1000000000000
    omega

set_option maxHeartbeats 4000000 in
set_option maxRecDepth 100000 in
theorem ok_size (q : dS) (hT : TS q) : dOk (zX10_size q) (fun (o : Int32 × dS) => (o.2 = q) ∧ (Int32.toInt o.1 = Int32.toInt (q.1 2 29)) ∧ (0 ≤ Int32.toInt o.1 ∧ Int32.toInt o.1 ≤ 6)) := by
  unfold zX10_size
  have f_1 : 0 ≤ Int32.toInt (q.1 2 29) ∧ Int32.toInt (q.1 2 29) ≤ 6 := hT.1 2 29
  exact dOk_some (show (q = q) ∧ (Int32.toInt (q.1 2 29) = Int32.toInt (q.1 2 29)) ∧ (0 ≤ Int32.toInt (q.1 2 29) ∧ Int32.toInt (q.1 2 29) ≤ 6) from ⟨rfl, by omega, by omega⟩)

set_option maxHeartbeats 4000000 in
set_option maxRecDepth 100000 in
theorem ok_isPlace (q : dS) (p1 : Int32) (hT : TS q) : dOk (zX10_isPlace q p1) (fun (o : Int32 × dS) => (o.2 = q) ∧ ((Int32.toInt o.1 = 1 ∧ 0 ≤ Int32.toInt p1 ∧ Int32.toInt p1 < Int32.toInt (q.1 2 29)) ∨ (Int32.toInt o.1 = 0 ∧ (Int32.toInt p1 < 0 ∨ Int32.toInt (q.1 2 29) ≤ Int32.toInt p1)))) := by
  unfold zX10_isPlace
  refine dOk_B (ok_size q hT) (fun r_1 q_2 h_3 => ?_)
  replace h_3 : (q_2 = q) ∧ (Int32.toInt r_1 = Int32.toInt (q.1 2 29)) ∧ (0 ≤ Int32.toInt r_1 ∧ Int32.toInt r_1 ≤ 6) := h_3
  obtain ⟨i_4, i_5, i_6⟩ := h_3
  subst q_2
  have f_7 : 0 ≤ Int32.toInt (q.1 2 29) ∧ Int32.toInt (q.1 2 29) ≤ 6 := hT.1 2 29
  try have t_8 : Int32.toInt (r_1 - 1) = Int32.toInt r_1 - 1 := ti_sub rfl (by decide) (by omega) (by omega)
  refine dOk_V (ok_lies p1 0 (r_1 - 1)) (fun r_9 h_10 => ?_)
  replace h_10 : ((Int32.toInt r_9 = 1 ∧ (0 : Int) ≤ Int32.toInt p1 ∧ Int32.toInt p1 ≤ Int32.toInt (r_1 - 1)) ∨ (Int32.toInt r_9 = 0 ∧ (Int32.toInt p1 < (0 : Int) ∨ Int32.toInt (r_1 - 1) < Int32.toInt p1))) := h_10
  have i_11 := h_10
  refine dOk_G (dbl_ok (show Int32.toInt r_9 = 0 ∨ Int32.toInt r_9 = 1 by omega)) ?_
  exact dOk_some (show (q = q) ∧ ((Int32.toInt r_9 = 1 ∧ 0 ≤ Int32.toInt p1 ∧ Int32.toInt p1 < Int32.toInt (q.1 2 29)) ∨ (Int32.toInt r_9 = 0 ∧ (Int32.toInt p1 < 0 ∨ Int32.toInt (q.1 2 29) ≤ Int32.toInt p1))) from ⟨rfl, by omega⟩)

set_option maxHeartbeats 4000000 in
set_option maxRecDepth 100000 in
theorem ok_placeOf (q : dS) (p1 : Int32) (hT : TS q) : dOk (zX10_placeOf q p1) (fun (o : Int32 × dS) => (o.2 = q) ∧ (-1 ≤ Int32.toInt o.1 ∧ Int32.toInt o.1 ≤ 5)) := by
  unfold zX10_placeOf
  unfold zX10_placeOf_4
  refine dFix_ok (fun (a : dS × Int32 × Int32 × Int32) => (a.1 = q) ∧ (a.2.1 = p1) ∧ (0 ≤ Int32.toInt a.2.2.2) ∧ (Int32.toInt a.2.2.2 ≤ 6) ∧ (-1 ≤ Int32.toInt a.2.2.1 ∧ Int32.toInt a.2.2.1 ≤ 5)) (fun (a : dS × Int32 × Int32 × Int32) => (6 - Int32.toInt a.2.2.2).toNat) ?_ _ ?_ _ (dF_gt ?_)
  · intro a ha k_2 hk_1
    obtain ⟨q_3, x1_4, x2_5, x3_6⟩ := a
    replace ha : (q_3 = q) ∧ (x1_4 = p1) ∧ (0 ≤ Int32.toInt x3_6) ∧ (Int32.toInt x3_6 ≤ 6) ∧ (-1 ≤ Int32.toInt x2_5 ∧ Int32.toInt x2_5 ≤ 5) := ha
    obtain ⟨a_7, a_8, a_9, a_10, a_11⟩ := ha
    show dOk (zX10_placeOf_4b  (fun q x1 x2 x3 => k_2 (q, x1, x2, x3)) q_3 x1_4 x2_5 x3_6) _
    unfold zX10_placeOf_4b
    subst q_3
    subst x1_4
    refine dOk_B (ok_size q hT) (fun r_12 q_13 h_14 => ?_)
    replace h_14 : (q_13 = q) ∧ (Int32.toInt r_12 = Int32.toInt (q.1 2 29)) ∧ (0 ≤ Int32.toInt r_12 ∧ Int32.toInt r_12 ≤ 6) := h_14
    obtain ⟨i_15, i_16, i_17⟩ := h_14
    subst q_13
    have f_18 : 0 ≤ Int32.toInt (q.1 2 29) ∧ Int32.toInt (q.1 2 29) ≤ 6 := hT.1 2 29
    refine dOk_le (A := Int32.toInt r_12) (B := Int32.toInt x3_6) rfl rfl (fun c_19 => ?_) (fun c_20 => ?_)
    · exact dOk_some (show (q = q) ∧ (-1 ≤ Int32.toInt x2_5 ∧ Int32.toInt x2_5 ≤ 5) from ⟨rfl, by omega⟩)
    · try have t_21 : Int32.toInt (0 + x3_6) = 0 + Int32.toInt x3_6 := ti_add (by decide) rfl (by omega) (by omega)
      refine dOk_G (dg_ok (show 0 ≤ Int32.toInt (0 + x3_6) by omega) (show Int32.toInt (0 + x3_6) < ((5640 : Nat) : Int) by omega)) ?_
      have n_22 : ((Int32.toNatClampNeg (0 + x3_6) : Nat) : Int) = Int32.toInt (0 + x3_6) := cl_eq (by omega)
      refine dOk_L (fun v_23 ev_23 => ?_)
      try have g_24 : klo (Int32.toNatClampNeg (0 + x3_6)) ≤ Int32.toInt v_23 ∧ Int32.toInt v_23 ≤ khi (Int32.toNatClampNeg (0 + x3_6)) := by rw [ev_23]; exact te_k hT _
      try have f_25 : 0 ≤ Int32.toInt v_23 ∧ Int32.toInt v_23 ≤ 5 := by rw [ev_23]; exact te_2r hT (by omega) (by omega)
      try have f_26 : 0 ≤ Int32.toInt v_23 ∧ Int32.toInt v_23 ≤ 1 := by rw [ev_23]; exact te_2h hT (by omega) (by omega)
      try have f_27 : 0 ≤ Int32.toInt v_23 ∧ Int32.toInt v_23 ≤ 5 := by rw [ev_23]; exact te_2s hT (by omega) (by omega)
      try have f_28 : 0 ≤ Int32.toInt v_23 ∧ Int32.toInt v_23 ≤ 400 := by rw [ev_23]; exact te_2z hT (by omega) (by omega)
      refine dOk_eq (A := Int32.toInt v_23) (B := Int32.toInt p1) rfl rfl (fun c_29z c_29 => ?_) (fun c_30z c_30 => ?_)
      · unfold zX10_placeOf_29
        try have t_32 : Int32.toInt (x3_6 + 1) = Int32.toInt x3_6 + 1 := ti_add rfl (by decide) (by omega) (by omega)
        exact hk_1 (q, p1, x3_6, (x3_6 + 1)) (show (q = q) ∧ (p1 = p1) ∧ (0 ≤ Int32.toInt (x3_6 + 1)) ∧ (Int32.toInt (x3_6 + 1) ≤ 6) ∧ (-1 ≤ Int32.toInt x3_6 ∧ Int32.toInt x3_6 ≤ 5) from ⟨rfl, rfl, by omega, by omega, by omega⟩) (show (6 - Int32.toInt (x3_6 + 1)).toNat < (6 - Int32.toInt x3_6).toNat by omega)
      · unfold zX10_placeOf_29
        try have t_33 : Int32.toInt (x3_6 + 1) = Int32.toInt x3_6 + 1 := ti_add rfl (by decide) (by omega) (by omega)
        exact hk_1 (q, p1, x2_5, (x3_6 + 1)) (show (q = q) ∧ (p1 = p1) ∧ (0 ≤ Int32.toInt (x3_6 + 1)) ∧ (Int32.toInt (x3_6 + 1) ≤ 6) ∧ (-1 ≤ Int32.toInt x2_5 ∧ Int32.toInt x2_5 ≤ 5) from ⟨rfl, rfl, by omega, by omega, by omega⟩) (show (6 - Int32.toInt (x3_6 + 1)).toNat < (6 - Int32.toInt x3_6).toNat by omega)
  · exact (show (q = q) ∧ (p1 = p1) ∧ (0 ≤ (0 : Int)) ∧ ((0 : Int) ≤ 6) ∧ (-1 ≤ (-1 : Int) ∧ (-1 : Int) ≤ 5) from ⟨rfl, rfl, by omega, by omega, by omega⟩)
  · show (6 - (0 : Int)).toNat < 1000000000000
    omega

set_option maxHeartbeats 4000000 in
set_option maxRecDepth 100000 in
theorem ok_adds (q : dS) (p1 : Int32) (p2 : Int32) (hT : TS q) (hp0 : Int32.toInt (q.1 2 29) < 6) (hp1 : 0 ≤ Int32.toInt p1 ∧ Int32.toInt p1 ≤ 5) (hp2 : 0 ≤ Int32.toInt p2 ∧ Int32.toInt p2 ≤ 1) : dOk (zX10_adds q p1 p2) (fun (o : dS) => (TS o) ∧ (dFr [2] [] q o) ∧ (Int32.toInt (o.1 2 29) = Int32.toInt (q.1 2 29) + 1) ∧ (Int32.toInt (o.1 2 31) = Int32.toInt (q.1 2 31)) ∧ (Int32.toInt (o.1 2 32) = Int32.toInt (q.1 2 32))) := by
  unfold zX10_adds
  refine dOk_B (ok_size q hT) (fun r_1 q_2 h_3 => ?_)
  replace h_3 : (q_2 = q) ∧ (Int32.toInt r_1 = Int32.toInt (q.1 2 29)) ∧ (0 ≤ Int32.toInt r_1 ∧ Int32.toInt r_1 ≤ 6) := h_3
  obtain ⟨i_4, i_5, i_6⟩ := h_3
  subst q_2
  have f_7 : 0 ≤ Int32.toInt (q.1 2 29) ∧ Int32.toInt (q.1 2 29) ≤ 6 := hT.1 2 29
  try have t_8 : Int32.toInt (0 + r_1) = 0 + Int32.toInt r_1 := ti_add (by decide) rfl (by omega) (by omega)
  refine dOk_G (dg_ok (show 0 ≤ Int32.toInt (0 + r_1) by omega) (show Int32.toInt (0 + r_1) < ((5640 : Nat) : Int) by omega)) ?_
  have n_9 : ((Int32.toNatClampNeg (0 + r_1) : Nat) : Int) = Int32.toInt (0 + r_1) := cl_eq (by omega)
  refine dOk_L (fun q_10 eq_10 => ?_)
  have hTq_10 : TS q_10 := by rw [eq_10]; exact ts_set2 hT (by omega) (show klo (Int32.toNatClampNeg (0 + r_1)) ≤ Int32.toInt p1 by unfold klo; omega) (show Int32.toInt p1 ≤ khi (Int32.toNatClampNeg (0 + r_1)) by unfold khi; omega)
  have hFq_10 : dFr [2] [] q q_10 := by rw [eq_10]; exact (dFr.rf (q := q)).i (by decide) (by decide)
  refine dOk_B (ok_size q_10 hTq_10) (fun r_11 q_12 h_13 => ?_)
  replace h_13 : (q_12 = q_10) ∧ (Int32.toInt r_11 = Int32.toInt (q_10.1 2 29)) ∧ (0 ≤ Int32.toInt r_11 ∧ Int32.toInt r_11 ≤ 6) := h_13
  obtain ⟨i_14, i_15, i_16⟩ := h_13
  subst q_12
  have f_17 : 0 ≤ Int32.toInt (q_10.1 2 29) ∧ Int32.toInt (q_10.1 2 29) ≤ 6 := hTq_10.1 2 29
  try have w_18 : Int32.toInt (q_10.1 2 29) = Int32.toInt (q.1 2 29) := by rw [eq_10, dui_n (by omega)]
  try have t_19 : Int32.toInt (6 + r_11) = 6 + Int32.toInt r_11 := ti_add (by decide) rfl (by omega) (by omega)
  refine dOk_G (dg_ok (show 0 ≤ Int32.toInt (6 + r_11) by omega) (show Int32.toInt (6 + r_11) < ((5640 : Nat) : Int) by omega)) ?_
  have n_20 : ((Int32.toNatClampNeg (6 + r_11) : Nat) : Int) = Int32.toInt (6 + r_11) := cl_eq (by omega)
  refine dOk_L (fun q_21 eq_21 => ?_)
  have hTq_21 : TS q_21 := by rw [eq_21]; exact ts_set2 hTq_10 (by omega) (show klo (Int32.toNatClampNeg (6 + r_11)) ≤ Int32.toInt p2 by unfold klo; omega) (show Int32.toInt p2 ≤ khi (Int32.toNatClampNeg (6 + r_11)) by unfold khi; omega)
  have hFq_21 : dFr [2] [] q q_21 := by rw [eq_21]; exact hFq_10.i (by decide) (by decide)
  refine dOk_L (fun q_22 eq_22 => ?_)
  have f_23 : 0 ≤ Int32.toInt (q_21.1 2 29) ∧ Int32.toInt (q_21.1 2 29) ≤ 6 := hTq_21.1 2 29
  try have w_24 : Int32.toInt (q_21.1 2 29) = Int32.toInt (q_10.1 2 29) := by rw [eq_21, dui_n (by omega)]
  try have t_25 : Int32.toInt (q_21.1 2 29 + 1) = Int32.toInt (q_21.1 2 29) + 1 := ti_add rfl (by decide) (by omega) (by omega)
  have hTq_22 : TS q_22 := by rw [eq_22]; exact ts_set2 hTq_21 (by omega) (show klo (29) ≤ Int32.toInt (q_21.1 2 29 + 1) by unfold klo; omega) (show Int32.toInt (q_21.1 2 29 + 1) ≤ khi (29) by unfold khi; omega)
  have hFq_22 : dFr [2] [] q q_22 := by rw [eq_22]; exact hFq_21.i (by decide) (by decide)
  have f_26 : 0 ≤ Int32.toInt (q_22.1 2 29) ∧ Int32.toInt (q_22.1 2 29) ≤ 6 := hTq_22.1 2 29
  have w_27 : Int32.toInt (q_22.1 2 29) = Int32.toInt (q_21.1 2 29 + 1) := by rw [eq_22, dui_e]
  have f_28 : 0 ≤ Int32.toInt (q_22.1 2 31) ∧ Int32.toInt (q_22.1 2 31) ≤ 6 := hTq_22.1 2 31
  have f_29 : 0 ≤ Int32.toInt (q_21.1 2 31) ∧ Int32.toInt (q_21.1 2 31) ≤ 6 := hTq_21.1 2 31
  have f_30 : 0 ≤ Int32.toInt (q_10.1 2 31) ∧ Int32.toInt (q_10.1 2 31) ≤ 6 := hTq_10.1 2 31
  have f_31 : 0 ≤ Int32.toInt (q.1 2 31) ∧ Int32.toInt (q.1 2 31) ≤ 6 := hT.1 2 31
  try have w_32 : Int32.toInt (q_10.1 2 31) = Int32.toInt (q.1 2 31) := by rw [eq_10, dui_n (by omega)]
  try have w_33 : Int32.toInt (q_21.1 2 31) = Int32.toInt (q_10.1 2 31) := by rw [eq_21, dui_n (by omega)]
  have w_34 : Int32.toInt (q_22.1 2 31) = Int32.toInt (q_21.1 2 31) := by rw [eq_22, dui_n (by decide)]
  have f_35 : -1 ≤ Int32.toInt (q_22.1 2 32) ∧ Int32.toInt (q_22.1 2 32) ≤ 5 := hTq_22.1 2 32
  have k_36 : Int32.toInt (q_22.1 2 32) < Int32.toInt (q_22.1 2 31) := hTq_22.2.1.1
  have f_37 : -1 ≤ Int32.toInt (q_21.1 2 32) ∧ Int32.toInt (q_21.1 2 32) ≤ 5 := hTq_21.1 2 32
  have k_38 : Int32.toInt (q_21.1 2 32) < Int32.toInt (q_21.1 2 31) := hTq_21.2.1.1
  have f_39 : -1 ≤ Int32.toInt (q_10.1 2 32) ∧ Int32.toInt (q_10.1 2 32) ≤ 5 := hTq_10.1 2 32
  have k_40 : Int32.toInt (q_10.1 2 32) < Int32.toInt (q_10.1 2 31) := hTq_10.2.1.1
  have f_41 : -1 ≤ Int32.toInt (q.1 2 32) ∧ Int32.toInt (q.1 2 32) ≤ 5 := hT.1 2 32
  have k_42 : Int32.toInt (q.1 2 32) < Int32.toInt (q.1 2 31) := hT.2.1.1
  try have w_43 : Int32.toInt (q_10.1 2 32) = Int32.toInt (q.1 2 32) := by rw [eq_10, dui_n (by omega)]
  try have w_44 : Int32.toInt (q_21.1 2 32) = Int32.toInt (q_10.1 2 32) := by rw [eq_21, dui_n (by omega)]
  have w_45 : Int32.toInt (q_22.1 2 32) = Int32.toInt (q_21.1 2 32) := by rw [eq_22, dui_n (by decide)]
  exact dOk_some (show (TS q_22) ∧ (dFr [2] [] q q_22) ∧ (Int32.toInt (q_22.1 2 29) = Int32.toInt (q.1 2 29) + 1) ∧ (Int32.toInt (q_22.1 2 31) = Int32.toInt (q.1 2 31)) ∧ (Int32.toInt (q_22.1 2 32) = Int32.toInt (q.1 2 32)) from ⟨hTq_22, hFq_22, by omega, by omega, by omega⟩)
end
section
set_option maxHeartbeats 4000000 in
set_option maxRecDepth 100000 in
theorem ok_floor (q : dS) (p1 : Int32) (p2 : Int32) (hT : TS q) : dOk (zX10_floor q p1 p2) (fun (o : Int32 × dS) => (TS o.2) ∧ (dFr [1, 2] [0, 32] q o.2) ∧ (Int32.toInt (o.2.1 2 31) = Int32.toInt (q.1 2 31)) ∧ (Int32.toInt (o.2.1 2 32) = Int32.toInt (q.1 2 32))) := by
  unfold zX10_floor
  refine dOk_V (ok_isRank p1) (fun r_1 h_2 => ?_)
  replace h_2 : ((Int32.toInt r_1 = 1 ∧ 0 ≤ Int32.toInt p1 ∧ Int32.toInt p1 ≤ 5) ∨ (Int32.toInt r_1 = 0 ∧ (Int32.toInt p1 < 0 ∨ 5 < Int32.toInt p1))) := h_2
  have i_3 := h_2
  refine dOk_eq (A := Int32.toInt r_1) (B := 0) rfl (by decide) (fun c_4z c_4 => ?_) (fun c_5z c_5 => ?_)
  · unfold zX10_floor_14
    refine dOk_B (ok_refuses q (-1) hT (show (-6) ≤ (-1 : Int) by omega) (show (-1 : Int) ≤ 0 by omega)) (fun r_7 q_8 h_9 => ?_)
    replace h_9 : (TS q_8) ∧ (dFr [1] [0] q q_8) ∧ (Int32.toInt r_7 = (-1 : Int)) := h_9
    obtain ⟨i_10, i_11, i_12⟩ := h_9
    have hFq_8 : dFr [1, 2] [0, 32] q q_8 := (dFr.rf (q := q)).t i_11 (by decide) (by decide)
    have f_13 : 0 ≤ Int32.toInt (q_8.1 2 31) ∧ Int32.toInt (q_8.1 2 31) ≤ 6 := i_10.1 2 31
    have f_14 : 0 ≤ Int32.toInt (q.1 2 31) ∧ Int32.toInt (q.1 2 31) ≤ 6 := hT.1 2 31
    have w_15 : Int32.toInt (q_8.1 2 31) = Int32.toInt (q.1 2 31) := by rw [i_11.1 2 (by decide) (by decide)]
    have f_16 : -1 ≤ Int32.toInt (q_8.1 2 32) ∧ Int32.toInt (q_8.1 2 32) ≤ 5 := i_10.1 2 32
    have k_17 : Int32.toInt (q_8.1 2 32) < Int32.toInt (q_8.1 2 31) := i_10.2.1.1
    have f_18 : -1 ≤ Int32.toInt (q.1 2 32) ∧ Int32.toInt (q.1 2 32) ≤ 5 := hT.1 2 32
    have k_19 : Int32.toInt (q.1 2 32) < Int32.toInt (q.1 2 31) := hT.2.1.1
    have w_20 : Int32.toInt (q_8.1 2 32) = Int32.toInt (q.1 2 32) := by rw [i_11.1 2 (by decide) (by decide)]
    exact dOk_some (show (TS q_8) ∧ (dFr [1, 2] [0, 32] q q_8) ∧ (Int32.toInt (q_8.1 2 31) = Int32.toInt (q.1 2 31)) ∧ (Int32.toInt (q_8.1 2 32) = Int32.toInt (q.1 2 32)) from ⟨i_10, hFq_8, by omega, by omega⟩)
  · refine dOk_V (ok_isBit p2) (fun r_21 h_22 => ?_)
    replace h_22 : ((Int32.toInt r_21 = 1 ∧ 0 ≤ Int32.toInt p2 ∧ Int32.toInt p2 ≤ 1) ∨ (Int32.toInt r_21 = 0 ∧ (Int32.toInt p2 < 0 ∨ 1 < Int32.toInt p2))) := h_22
    have i_23 := h_22
    refine dOk_eq (A := Int32.toInt r_21) (B := 0) rfl (by decide) (fun c_24z c_24 => ?_) (fun c_25z c_25 => ?_)
    · unfold zX10_floor_14
      refine dOk_B (ok_refuses q (-1) hT (show (-6) ≤ (-1 : Int) by omega) (show (-1 : Int) ≤ 0 by omega)) (fun r_27 q_28 h_29 => ?_)
      replace h_29 : (TS q_28) ∧ (dFr [1] [0] q q_28) ∧ (Int32.toInt r_27 = (-1 : Int)) := h_29
      obtain ⟨i_30, i_31, i_32⟩ := h_29
      have hFq_28 : dFr [1, 2] [0, 32] q q_28 := (dFr.rf (q := q)).t i_31 (by decide) (by decide)
      have f_33 : 0 ≤ Int32.toInt (q_28.1 2 31) ∧ Int32.toInt (q_28.1 2 31) ≤ 6 := i_30.1 2 31
      have f_34 : 0 ≤ Int32.toInt (q.1 2 31) ∧ Int32.toInt (q.1 2 31) ≤ 6 := hT.1 2 31
      have w_35 : Int32.toInt (q_28.1 2 31) = Int32.toInt (q.1 2 31) := by rw [i_31.1 2 (by decide) (by decide)]
      have f_36 : -1 ≤ Int32.toInt (q_28.1 2 32) ∧ Int32.toInt (q_28.1 2 32) ≤ 5 := i_30.1 2 32
      have k_37 : Int32.toInt (q_28.1 2 32) < Int32.toInt (q_28.1 2 31) := i_30.2.1.1
      have f_38 : -1 ≤ Int32.toInt (q.1 2 32) ∧ Int32.toInt (q.1 2 32) ≤ 5 := hT.1 2 32
      have k_39 : Int32.toInt (q.1 2 32) < Int32.toInt (q.1 2 31) := hT.2.1.1
      have w_40 : Int32.toInt (q_28.1 2 32) = Int32.toInt (q.1 2 32) := by rw [i_31.1 2 (by decide) (by decide)]
      exact dOk_some (show (TS q_28) ∧ (dFr [1, 2] [0, 32] q q_28) ∧ (Int32.toInt (q_28.1 2 31) = Int32.toInt (q.1 2 31)) ∧ (Int32.toInt (q_28.1 2 32) = Int32.toInt (q.1 2 32)) from ⟨i_30, hFq_28, by omega, by omega⟩)
    · refine dOk_B (ok_placeOf q p1 hT) (fun r_41 q_42 h_43 => ?_)
      replace h_43 : (q_42 = q) ∧ (-1 ≤ Int32.toInt r_41 ∧ Int32.toInt r_41 ≤ 5) := h_43
      obtain ⟨i_44, i_45⟩ := h_43
      subst q_42
      refine dOk_eq (A := Int32.toInt r_41) (B := (-1)) rfl (by decide) (fun c_46z c_46 => ?_) (fun c_47z c_47 => ?_)
      · refine dOk_B (ok_size q hT) (fun r_49 q_50 h_51 => ?_)
        replace h_51 : (q_50 = q) ∧ (Int32.toInt r_49 = Int32.toInt (q.1 2 29)) ∧ (0 ≤ Int32.toInt r_49 ∧ Int32.toInt r_49 ≤ 6) := h_51
        obtain ⟨i_52, i_53, i_54⟩ := h_51
        subst q_50
        have f_55 : 0 ≤ Int32.toInt (q.1 2 29) ∧ Int32.toInt (q.1 2 29) ≤ 6 := hT.1 2 29
        refine dOk_eq (A := Int32.toInt r_49) (B := 6) rfl (by decide) (fun c_56z c_56 => ?_) (fun c_57z c_57 => ?_)
        · refine dOk_B (ok_refuses q (-5) hT (show (-6) ≤ (-5 : Int) by omega) (show (-5 : Int) ≤ 0 by omega)) (fun r_59 q_60 h_61 => ?_)
          replace h_61 : (TS q_60) ∧ (dFr [1] [0] q q_60) ∧ (Int32.toInt r_59 = (-5 : Int)) := h_61
          obtain ⟨i_62, i_63, i_64⟩ := h_61
          have hFq_60 : dFr [1, 2] [0, 32] q q_60 := (dFr.rf (q := q)).t i_63 (by decide) (by decide)
          have f_65 : 0 ≤ Int32.toInt (q_60.1 2 31) ∧ Int32.toInt (q_60.1 2 31) ≤ 6 := i_62.1 2 31
          have f_66 : 0 ≤ Int32.toInt (q.1 2 31) ∧ Int32.toInt (q.1 2 31) ≤ 6 := hT.1 2 31
          have w_67 : Int32.toInt (q_60.1 2 31) = Int32.toInt (q.1 2 31) := by rw [i_63.1 2 (by decide) (by decide)]
          have f_68 : -1 ≤ Int32.toInt (q_60.1 2 32) ∧ Int32.toInt (q_60.1 2 32) ≤ 5 := i_62.1 2 32
          have k_69 : Int32.toInt (q_60.1 2 32) < Int32.toInt (q_60.1 2 31) := i_62.2.1.1
          have f_70 : -1 ≤ Int32.toInt (q.1 2 32) ∧ Int32.toInt (q.1 2 32) ≤ 5 := hT.1 2 32
          have k_71 : Int32.toInt (q.1 2 32) < Int32.toInt (q.1 2 31) := hT.2.1.1
          have w_72 : Int32.toInt (q_60.1 2 32) = Int32.toInt (q.1 2 32) := by rw [i_63.1 2 (by decide) (by decide)]
          exact dOk_some (show (TS q_60) ∧ (dFr [1, 2] [0, 32] q q_60) ∧ (Int32.toInt (q_60.1 2 31) = Int32.toInt (q.1 2 31)) ∧ (Int32.toInt (q_60.1 2 32) = Int32.toInt (q.1 2 32)) from ⟨i_62, hFq_60, by omega, by omega⟩)
        · refine dOk_V (ok_adds q p1 p2 hT (show Int32.toInt (q.1 2 29) < 6 by omega) (show 0 ≤ Int32.toInt p1 ∧ Int32.toInt p1 ≤ 5 by omega) (show 0 ≤ Int32.toInt p2 ∧ Int32.toInt p2 ≤ 1 by omega)) (fun q_73 h_74 => ?_)
          replace h_74 : (TS q_73) ∧ (dFr [2] [] q q_73) ∧ (Int32.toInt (q_73.1 2 29) = Int32.toInt (q.1 2 29) + 1) ∧ (Int32.toInt (q_73.1 2 31) = Int32.toInt (q.1 2 31)) ∧ (Int32.toInt (q_73.1 2 32) = Int32.toInt (q.1 2 32)) := h_74
          obtain ⟨i_75, i_76, i_77, i_78, i_79⟩ := h_74
          have hFq_73 : dFr [1, 2] [0, 32] q q_73 := (dFr.rf (q := q)).t i_76 (by decide) (by decide)
          have f_80 : 0 ≤ Int32.toInt (q_73.1 2 29) ∧ Int32.toInt (q_73.1 2 29) ≤ 6 := i_75.1 2 29
          have f_81 : 0 ≤ Int32.toInt (q_73.1 2 31) ∧ Int32.toInt (q_73.1 2 31) ≤ 6 := i_75.1 2 31
          have f_82 : 0 ≤ Int32.toInt (q.1 2 31) ∧ Int32.toInt (q.1 2 31) ≤ 6 := hT.1 2 31
          have f_83 : -1 ≤ Int32.toInt (q_73.1 2 32) ∧ Int32.toInt (q_73.1 2 32) ≤ 5 := i_75.1 2 32
          have k_84 : Int32.toInt (q_73.1 2 32) < Int32.toInt (q_73.1 2 31) := i_75.2.1.1
          have f_85 : -1 ≤ Int32.toInt (q.1 2 32) ∧ Int32.toInt (q.1 2 32) ≤ 5 := hT.1 2 32
          have k_86 : Int32.toInt (q.1 2 32) < Int32.toInt (q.1 2 31) := hT.2.1.1
          refine dOk_B (ok_size q_73 i_75) (fun r_87 q_88 h_89 => ?_)
          replace h_89 : (q_88 = q_73) ∧ (Int32.toInt r_87 = Int32.toInt (q_73.1 2 29)) ∧ (0 ≤ Int32.toInt r_87 ∧ Int32.toInt r_87 ≤ 6) := h_89
          obtain ⟨i_90, i_91, i_92⟩ := h_89
          subst q_88
          try have t_93 : Int32.toInt (r_87 - 1) = Int32.toInt r_87 - 1 := ti_sub rfl (by decide) (by omega) (by omega)
          refine dOk_B (ok_settled q_73 (r_87 - 1) i_75) (fun r_94 q_95 h_96 => ?_)
          replace h_96 : (TS q_95) ∧ (dFr [] [0, 32] q_73 q_95) ∧ (Int32.toInt r_94 = Int32.toInt (r_87 - 1)) := h_96
          obtain ⟨i_97, i_98, i_99⟩ := h_96
          have hFq_95 : dFr [1, 2] [0, 32] q q_95 := hFq_73.t i_98 (by decide) (by decide)
          have f_100 : 0 ≤ Int32.toInt (q_95.1 2 31) ∧ Int32.toInt (q_95.1 2 31) ≤ 6 := i_97.1 2 31
          have w_101 : Int32.toInt (q_95.1 2 31) = Int32.toInt (q_73.1 2 31) := by rw [i_98.1 2 (by decide) (by decide)]
          have f_102 : -1 ≤ Int32.toInt (q_95.1 2 32) ∧ Int32.toInt (q_95.1 2 32) ≤ 5 := i_97.1 2 32
          have k_103 : Int32.toInt (q_95.1 2 32) < Int32.toInt (q_95.1 2 31) := i_97.2.1.1
          have w_104 : Int32.toInt (q_95.1 2 32) = Int32.toInt (q_73.1 2 32) := by rw [i_98.1 2 (by decide) (by decide)]
          exact dOk_some (show (TS q_95) ∧ (dFr [1, 2] [0, 32] q q_95) ∧ (Int32.toInt (q_95.1 2 31) = Int32.toInt (q.1 2 31)) ∧ (Int32.toInt (q_95.1 2 32) = Int32.toInt (q.1 2 32)) from ⟨i_97, hFq_95, by omega, by omega⟩)
      · refine dOk_B (ok_refuses q (-3) hT (show (-6) ≤ (-3 : Int) by omega) (show (-3 : Int) ≤ 0 by omega)) (fun r_105 q_106 h_107 => ?_)
        replace h_107 : (TS q_106) ∧ (dFr [1] [0] q q_106) ∧ (Int32.toInt r_105 = (-3 : Int)) := h_107
        obtain ⟨i_108, i_109, i_110⟩ := h_107
        have hFq_106 : dFr [1, 2] [0, 32] q q_106 := (dFr.rf (q := q)).t i_109 (by decide) (by decide)
        have f_111 : 0 ≤ Int32.toInt (q_106.1 2 31) ∧ Int32.toInt (q_106.1 2 31) ≤ 6 := i_108.1 2 31
        have f_112 : 0 ≤ Int32.toInt (q.1 2 31) ∧ Int32.toInt (q.1 2 31) ≤ 6 := hT.1 2 31
        have w_113 : Int32.toInt (q_106.1 2 31) = Int32.toInt (q.1 2 31) := by rw [i_109.1 2 (by decide) (by decide)]
        have f_114 : -1 ≤ Int32.toInt (q_106.1 2 32) ∧ Int32.toInt (q_106.1 2 32) ≤ 5 := i_108.1 2 32
        have k_115 : Int32.toInt (q_106.1 2 32) < Int32.toInt (q_106.1 2 31) := i_108.2.1.1
        have f_116 : -1 ≤ Int32.toInt (q.1 2 32) ∧ Int32.toInt (q.1 2 32) ≤ 5 := hT.1 2 32
        have k_117 : Int32.toInt (q.1 2 32) < Int32.toInt (q.1 2 31) := hT.2.1.1
        have w_118 : Int32.toInt (q_106.1 2 32) = Int32.toInt (q.1 2 32) := by rw [i_109.1 2 (by decide) (by decide)]
        exact dOk_some (show (TS q_106) ∧ (dFr [1, 2] [0, 32] q q_106) ∧ (Int32.toInt (q_106.1 2 31) = Int32.toInt (q.1 2 31)) ∧ (Int32.toInt (q_106.1 2 32) = Int32.toInt (q.1 2 32)) from ⟨i_108, hFq_106, by omega, by omega⟩)

set_option maxHeartbeats 4000000 in
set_option maxRecDepth 100000 in
theorem ok_setsAsked (q : dS) (p1 : Int32) (p2 : Int32) (p3 : Int32) (hT : TS q) : dOk (zX10_setsAsked q p1 p2 p3) (fun (o : dS) => (TS o) ∧ (dFr [12] [] q o) ∧ (Int32.toInt (o.1 12 0) = Int32.toInt (q.1 12 0)) ∧ (Int32.toInt (o.1 12 1) = Int32.toInt (q.1 12 1)) ∧ (Int32.toInt (o.1 12 2) = Int32.toInt (q.1 12 2))) := by
  unfold zX10_setsAsked
  refine dOk_B (ok_size q hT) (fun r_1 q_2 h_3 => ?_)
  replace h_3 : (q_2 = q) ∧ (Int32.toInt r_1 = Int32.toInt (q.1 2 29)) ∧ (0 ≤ Int32.toInt r_1 ∧ Int32.toInt r_1 ≤ 6) := h_3
  obtain ⟨i_4, i_5, i_6⟩ := h_3
  subst q_2
  have f_7 : 0 ≤ Int32.toInt (q.1 2 29) ∧ Int32.toInt (q.1 2 29) ≤ 6 := hT.1 2 29
  refine dOk_L (fun q_8 eq_8 => ?_)
  have hTq_8 : TS q_8 := by rw [eq_8]; exact ts_any hT rfl
  have hFq_8 : dFr [12] [] q q_8 := by rw [eq_8]; exact (dFr.rf (q := q)).i (by decide) (by decide)
  refine dOk_L (fun q_9 eq_9 => ?_)
  have hTq_9 : TS q_9 := by rw [eq_9]; exact ts_any hTq_8 rfl
  have hFq_9 : dFr [12] [] q q_9 := by rw [eq_9]; exact hFq_8.i (by decide) (by decide)
  refine dOk_L (fun q_10 eq_10 => ?_)
  have hTq_10 : TS q_10 := by rw [eq_10]; exact ts_any hTq_9 rfl
  have hFq_10 : dFr [12] [] q q_10 := by rw [eq_10]; exact hFq_9.i (by decide) (by decide)
  refine dOk_L (fun q_11 eq_11 => ?_)
  have f_12 : 0 ≤ Int32.toInt (q_10.1 2 27) ∧ Int32.toInt (q_10.1 2 27) ≤ 9 := hTq_10.1 2 27
  have f_13 : 0 ≤ Int32.toInt (q_9.1 2 27) ∧ Int32.toInt (q_9.1 2 27) ≤ 9 := hTq_9.1 2 27
  have f_14 : 0 ≤ Int32.toInt (q_8.1 2 27) ∧ Int32.toInt (q_8.1 2 27) ≤ 9 := hTq_8.1 2 27
  have f_15 : 0 ≤ Int32.toInt (q.1 2 27) ∧ Int32.toInt (q.1 2 27) ≤ 9 := hT.1 2 27
  have w_16 : Int32.toInt (q_8.1 2 27) = Int32.toInt (q.1 2 27) := by rw [eq_8, dui_o (by decide)]
  have w_17 : Int32.toInt (q_9.1 2 27) = Int32.toInt (q_8.1 2 27) := by rw [eq_9, dui_o (by decide)]
  have w_18 : Int32.toInt (q_10.1 2 27) = Int32.toInt (q_9.1 2 27) := by rw [eq_10, dui_o (by decide)]
  have hTq_11 : TS q_11 := by rw [eq_11]; exact ts_any hTq_10 rfl
  have hFq_11 : dFr [12] [] q q_11 := by rw [eq_11]; exact hFq_10.i (by decide) (by decide)
  refine dOk_L (fun q_19 eq_19 => ?_)
  have hTq_19 : TS q_19 := by rw [eq_19]; exact ts_any hTq_11 rfl
  have hFq_19 : dFr [12] [] q q_19 := by rw [eq_19]; exact hFq_11.i (by decide) (by decide)
  refine dOk_L (fun q_20 eq_20 => ?_)
  have f_21 : 0 ≤ Int32.toInt (q_19.1 2 13) ∧ Int32.toInt (q_19.1 2 13) ≤ 999 := hTq_19.1 2 13
  have f_22 : 0 ≤ Int32.toInt (q_11.1 2 13) ∧ Int32.toInt (q_11.1 2 13) ≤ 999 := hTq_11.1 2 13
  have f_23 : 0 ≤ Int32.toInt (q_10.1 2 13) ∧ Int32.toInt (q_10.1 2 13) ≤ 999 := hTq_10.1 2 13
  have f_24 : 0 ≤ Int32.toInt (q_9.1 2 13) ∧ Int32.toInt (q_9.1 2 13) ≤ 999 := hTq_9.1 2 13
  have f_25 : 0 ≤ Int32.toInt (q_8.1 2 13) ∧ Int32.toInt (q_8.1 2 13) ≤ 999 := hTq_8.1 2 13
  have f_26 : 0 ≤ Int32.toInt (q.1 2 13) ∧ Int32.toInt (q.1 2 13) ≤ 999 := hT.1 2 13
  have w_27 : Int32.toInt (q_8.1 2 13) = Int32.toInt (q.1 2 13) := by rw [eq_8, dui_o (by decide)]
  have w_28 : Int32.toInt (q_9.1 2 13) = Int32.toInt (q_8.1 2 13) := by rw [eq_9, dui_o (by decide)]
  have w_29 : Int32.toInt (q_10.1 2 13) = Int32.toInt (q_9.1 2 13) := by rw [eq_10, dui_o (by decide)]
  have w_30 : Int32.toInt (q_11.1 2 13) = Int32.toInt (q_10.1 2 13) := by rw [eq_11, dui_o (by decide)]
  have w_31 : Int32.toInt (q_19.1 2 13) = Int32.toInt (q_11.1 2 13) := by rw [eq_19, dui_o (by decide)]
  have hTq_20 : TS q_20 := by rw [eq_20]; exact ts_any hTq_19 rfl
  have hFq_20 : dFr [12] [] q q_20 := by rw [eq_20]; exact hFq_19.i (by decide) (by decide)
  have w_32 : Int32.toInt (q_8.1 12 0) = Int32.toInt (q.1 12 0) := by rw [eq_8, dui_n (by decide)]
  have w_33 : Int32.toInt (q_9.1 12 0) = Int32.toInt (q_8.1 12 0) := by rw [eq_9, dui_n (by decide)]
  have w_34 : Int32.toInt (q_10.1 12 0) = Int32.toInt (q_9.1 12 0) := by rw [eq_10, dui_n (by decide)]
  have w_35 : Int32.toInt (q_11.1 12 0) = Int32.toInt (q_10.1 12 0) := by rw [eq_11, dui_n (by decide)]
  have w_36 : Int32.toInt (q_19.1 12 0) = Int32.toInt (q_11.1 12 0) := by rw [eq_19, dui_n (by decide)]
  have w_37 : Int32.toInt (q_20.1 12 0) = Int32.toInt (q_19.1 12 0) := by rw [eq_20, dui_n (by decide)]
  have w_38 : Int32.toInt (q_8.1 12 1) = Int32.toInt (q.1 12 1) := by rw [eq_8, dui_n (by decide)]
  have w_39 : Int32.toInt (q_9.1 12 1) = Int32.toInt (q_8.1 12 1) := by rw [eq_9, dui_n (by decide)]
  have w_40 : Int32.toInt (q_10.1 12 1) = Int32.toInt (q_9.1 12 1) := by rw [eq_10, dui_n (by decide)]
  have w_41 : Int32.toInt (q_11.1 12 1) = Int32.toInt (q_10.1 12 1) := by rw [eq_11, dui_n (by decide)]
  have w_42 : Int32.toInt (q_19.1 12 1) = Int32.toInt (q_11.1 12 1) := by rw [eq_19, dui_n (by decide)]
  have w_43 : Int32.toInt (q_20.1 12 1) = Int32.toInt (q_19.1 12 1) := by rw [eq_20, dui_n (by decide)]
  have w_44 : Int32.toInt (q_8.1 12 2) = Int32.toInt (q.1 12 2) := by rw [eq_8, dui_n (by decide)]
  have w_45 : Int32.toInt (q_9.1 12 2) = Int32.toInt (q_8.1 12 2) := by rw [eq_9, dui_n (by decide)]
  have w_46 : Int32.toInt (q_10.1 12 2) = Int32.toInt (q_9.1 12 2) := by rw [eq_10, dui_n (by decide)]
  have w_47 : Int32.toInt (q_11.1 12 2) = Int32.toInt (q_10.1 12 2) := by rw [eq_11, dui_n (by decide)]
  have w_48 : Int32.toInt (q_19.1 12 2) = Int32.toInt (q_11.1 12 2) := by rw [eq_19, dui_n (by decide)]
  have w_49 : Int32.toInt (q_20.1 12 2) = Int32.toInt (q_19.1 12 2) := by rw [eq_20, dui_n (by decide)]
  exact dOk_some (show (TS q_20) ∧ (dFr [12] [] q q_20) ∧ (Int32.toInt (q_20.1 12 0) = Int32.toInt (q.1 12 0)) ∧ (Int32.toInt (q_20.1 12 1) = Int32.toInt (q.1 12 1)) ∧ (Int32.toInt (q_20.1 12 2) = Int32.toInt (q.1 12 2)) from ⟨hTq_20, hFq_20, by omega, by omega, by omega⟩)

set_option maxHeartbeats 4000000 in
set_option maxRecDepth 100000 in
theorem ok_setsFloor (q : dS) (p1 : Int32) (hT : TS q) (hp0 : 0 ≤ Int32.toInt p1) (hp1 : Int32.toInt p1 < 6) : dOk (zX10_setsFloor q p1) (fun (o : dS) => (TS o) ∧ (dFr [12] [] q o)) := by
  unfold zX10_setsFloor
  refine dOk_L (fun q_1 eq_1 => ?_)
  have hTq_1 : TS q_1 := by rw [eq_1]; exact ts_any hT rfl
  have hFq_1 : dFr [12] [] q q_1 := by rw [eq_1]; exact (dFr.rf (q := q)).i (by decide) (by decide)
  refine dOk_L (fun q_2 eq_2 => ?_)
  have hTq_2 : TS q_2 := by rw [eq_2]; exact ts_any hTq_1 rfl
  have hFq_2 : dFr [12] [] q q_2 := by rw [eq_2]; exact hFq_1.i (by decide) (by decide)
  refine dOk_L (fun q_3 eq_3 => ?_)
  have hTq_3 : TS q_3 := by rw [eq_3]; exact ts_any hTq_2 rfl
  have hFq_3 : dFr [12] [] q q_3 := by rw [eq_3]; exact hFq_2.i (by decide) (by decide)
  try have t_4 : Int32.toInt (0 + p1) = 0 + Int32.toInt p1 := ti_add (by decide) rfl (by omega) (by omega)
  refine dOk_G (dg_ok (show 0 ≤ Int32.toInt (0 + p1) by omega) (show Int32.toInt (0 + p1) < ((5640 : Nat) : Int) by omega)) ?_
  have n_5 : ((Int32.toNatClampNeg (0 + p1) : Nat) : Int) = Int32.toInt (0 + p1) := cl_eq (by omega)
  refine dOk_L (fun v_6 ev_6 => ?_)
  try have g_7 : klo (Int32.toNatClampNeg (0 + p1)) ≤ Int32.toInt v_6 ∧ Int32.toInt v_6 ≤ khi (Int32.toNatClampNeg (0 + p1)) := by rw [ev_6]; exact te_k hTq_3 _
  try have f_8 : 0 ≤ Int32.toInt v_6 ∧ Int32.toInt v_6 ≤ 5 := by rw [ev_6]; exact te_2r hTq_3 (by omega) (by omega)
  try have f_9 : 0 ≤ Int32.toInt v_6 ∧ Int32.toInt v_6 ≤ 1 := by rw [ev_6]; exact te_2h hTq_3 (by omega) (by omega)
  try have f_10 : 0 ≤ Int32.toInt v_6 ∧ Int32.toInt v_6 ≤ 5 := by rw [ev_6]; exact te_2s hTq_3 (by omega) (by omega)
  try have f_11 : 0 ≤ Int32.toInt v_6 ∧ Int32.toInt v_6 ≤ 400 := by rw [ev_6]; exact te_2z hTq_3 (by omega) (by omega)
  try have t_12 : Int32.toInt (6 + p1) = 6 + Int32.toInt p1 := ti_add (by decide) rfl (by omega) (by omega)
  refine dOk_G (dg_ok (show 0 ≤ Int32.toInt (6 + p1) by omega) (show Int32.toInt (6 + p1) < ((5640 : Nat) : Int) by omega)) ?_
  have n_13 : ((Int32.toNatClampNeg (6 + p1) : Nat) : Int) = Int32.toInt (6 + p1) := cl_eq (by omega)
  refine dOk_L (fun v_14 ev_14 => ?_)
  try have g_15 : klo (Int32.toNatClampNeg (6 + p1)) ≤ Int32.toInt v_14 ∧ Int32.toInt v_14 ≤ khi (Int32.toNatClampNeg (6 + p1)) := by rw [ev_14]; exact te_k hTq_3 _
  try have f_16 : 0 ≤ Int32.toInt v_14 ∧ Int32.toInt v_14 ≤ 5 := by rw [ev_14]; exact te_2r hTq_3 (by omega) (by omega)
  try have f_17 : 0 ≤ Int32.toInt v_14 ∧ Int32.toInt v_14 ≤ 1 := by rw [ev_14]; exact te_2h hTq_3 (by omega) (by omega)
  try have f_18 : 0 ≤ Int32.toInt v_14 ∧ Int32.toInt v_14 ≤ 5 := by rw [ev_14]; exact te_2s hTq_3 (by omega) (by omega)
  try have f_19 : 0 ≤ Int32.toInt v_14 ∧ Int32.toInt v_14 ≤ 400 := by rw [ev_14]; exact te_2z hTq_3 (by omega) (by omega)
  refine dOk_V (ok_setsAsked q_3 v_6 p1 v_14 hTq_3) (fun q_20 h_21 => ?_)
  replace h_21 : (TS q_20) ∧ (dFr [12] [] q_3 q_20) ∧ (Int32.toInt (q_20.1 12 0) = Int32.toInt (q_3.1 12 0)) ∧ (Int32.toInt (q_20.1 12 1) = Int32.toInt (q_3.1 12 1)) ∧ (Int32.toInt (q_20.1 12 2) = Int32.toInt (q_3.1 12 2)) := h_21
  obtain ⟨i_22, i_23, i_24, i_25, i_26⟩ := h_21
  have hFq_20 : dFr [12] [] q q_20 := hFq_3.t i_23 (by decide) (by decide)
  have w_27 : Int32.toInt (q_1.1 12 0) = (-1 : Int) := by rw [eq_1, dui_e]; decide
  have w_28 : Int32.toInt (q_2.1 12 0) = Int32.toInt (q_1.1 12 0) := by rw [eq_2, dui_n (by decide)]
  have w_29 : Int32.toInt (q_3.1 12 0) = Int32.toInt (q_2.1 12 0) := by rw [eq_3, dui_n (by decide)]
  have w_30 : Int32.toInt (q_2.1 12 1) = (-1 : Int) := by rw [eq_2, dui_e]; decide
  have w_31 : Int32.toInt (q_3.1 12 1) = Int32.toInt (q_2.1 12 1) := by rw [eq_3, dui_n (by decide)]
  have w_32 : Int32.toInt (q_3.1 12 2) = (-1 : Int) := by rw [eq_3, dui_e]; decide
  exact dOk_some (show (TS q_20) ∧ (dFr [12] [] q q_20) from ⟨i_22, hFq_20⟩)

set_option maxHeartbeats 4000000 in
set_option maxRecDepth 100000 in
theorem ok_sign (p1 : Int32) (hp0 : 0 ≤ Int32.toInt p1 ∧ Int32.toInt p1 ≤ 255) : dOk (zX10_sign p1) (fun (o : Int32) => (Int32.toInt o = Int32.toInt p1 + 100)) := by
  unfold zX10_sign
  try have t_1 : Int32.toInt (100 + p1) = 100 + Int32.toInt p1 := ti_add (by decide) rfl (by omega) (by omega)
  exact dOk_some (show (Int32.toInt (100 + p1) = Int32.toInt p1 + 100) from (by omega))

set_option maxHeartbeats 4000000 in
set_option maxRecDepth 100000 in
theorem ok_lessThan (q : dS) (p1 : Int32) (hT : TS q) : dOk (zX10_lessThan q p1) (fun (o : Int32 × dS) => (o.2 = q) ∧ (0 ≤ Int32.toInt o.1 ∧ Int32.toInt o.1 ≤ 6)) := by
  unfold zX10_lessThan
  unfold zX10_lessThan_4
  refine dFix_ok (fun (a : dS × Int32 × Int32 × Int32) => (a.1 = q) ∧ (a.2.1 = p1) ∧ (0 ≤ Int32.toInt a.2.2.2) ∧ (Int32.toInt a.2.2.2 ≤ 6) ∧ (0 ≤ Int32.toInt a.2.2.1) ∧ (Int32.toInt a.2.2.1 ≤ Int32.toInt a.2.2.2)) (fun (a : dS × Int32 × Int32 × Int32) => (6 - Int32.toInt a.2.2.2).toNat) ?_ _ ?_ _ (dF_gt ?_)
  · intro a ha k_2 hk_1
    obtain ⟨q_3, x1_4, x2_5, x3_6⟩ := a
    replace ha : (q_3 = q) ∧ (x1_4 = p1) ∧ (0 ≤ Int32.toInt x3_6) ∧ (Int32.toInt x3_6 ≤ 6) ∧ (0 ≤ Int32.toInt x2_5) ∧ (Int32.toInt x2_5 ≤ Int32.toInt x3_6) := ha
    obtain ⟨a_7, a_8, a_9, a_10, a_11, a_12⟩ := ha
    show dOk (zX10_lessThan_4b  (fun q x1 x2 x3 => k_2 (q, x1, x2, x3)) q_3 x1_4 x2_5 x3_6) _
    unfold zX10_lessThan_4b
    subst q_3
    subst x1_4
    refine dOk_B (ok_size q hT) (fun r_13 q_14 h_15 => ?_)
    replace h_15 : (q_14 = q) ∧ (Int32.toInt r_13 = Int32.toInt (q.1 2 29)) ∧ (0 ≤ Int32.toInt r_13 ∧ Int32.toInt r_13 ≤ 6) := h_15
    obtain ⟨i_16, i_17, i_18⟩ := h_15
    subst q_14
    have f_19 : 0 ≤ Int32.toInt (q.1 2 29) ∧ Int32.toInt (q.1 2 29) ≤ 6 := hT.1 2 29
    refine dOk_le (A := Int32.toInt r_13) (B := Int32.toInt x3_6) rfl rfl (fun c_20 => ?_) (fun c_21 => ?_)
    · exact dOk_some (show (q = q) ∧ (0 ≤ Int32.toInt x2_5 ∧ Int32.toInt x2_5 ≤ 6) from ⟨rfl, by omega⟩)
    · try have t_22 : Int32.toInt (0 + x3_6) = 0 + Int32.toInt x3_6 := ti_add (by decide) rfl (by omega) (by omega)
      refine dOk_G (dg_ok (show 0 ≤ Int32.toInt (0 + x3_6) by omega) (show Int32.toInt (0 + x3_6) < ((5640 : Nat) : Int) by omega)) ?_
      have n_23 : ((Int32.toNatClampNeg (0 + x3_6) : Nat) : Int) = Int32.toInt (0 + x3_6) := cl_eq (by omega)
      refine dOk_L (fun v_24 ev_24 => ?_)
      try have g_25 : klo (Int32.toNatClampNeg (0 + x3_6)) ≤ Int32.toInt v_24 ∧ Int32.toInt v_24 ≤ khi (Int32.toNatClampNeg (0 + x3_6)) := by rw [ev_24]; exact te_k hT _
      try have f_26 : 0 ≤ Int32.toInt v_24 ∧ Int32.toInt v_24 ≤ 5 := by rw [ev_24]; exact te_2r hT (by omega) (by omega)
      try have f_27 : 0 ≤ Int32.toInt v_24 ∧ Int32.toInt v_24 ≤ 1 := by rw [ev_24]; exact te_2h hT (by omega) (by omega)
      try have f_28 : 0 ≤ Int32.toInt v_24 ∧ Int32.toInt v_24 ≤ 5 := by rw [ev_24]; exact te_2s hT (by omega) (by omega)
      try have f_29 : 0 ≤ Int32.toInt v_24 ∧ Int32.toInt v_24 ≤ 400 := by rw [ev_24]; exact te_2z hT (by omega) (by omega)
      refine dOk_le (A := Int32.toInt p1) (B := Int32.toInt v_24) rfl rfl (fun c_30 => ?_) (fun c_31 => ?_)
      · unfold zX10_lessThan_30
        try have t_32 : Int32.toInt (x2_5 + 0) = Int32.toInt x2_5 + 0 := ti_add rfl (by decide) (by omega) (by omega)
        try have t_33 : Int32.toInt (x3_6 + 1) = Int32.toInt x3_6 + 1 := ti_add rfl (by decide) (by omega) (by omega)
        exact hk_1 (q, p1, (x2_5 + 0), (x3_6 + 1)) (show (q = q) ∧ (p1 = p1) ∧ (0 ≤ Int32.toInt (x3_6 + 1)) ∧ (Int32.toInt (x3_6 + 1) ≤ 6) ∧ (0 ≤ Int32.toInt (x2_5 + 0)) ∧ (Int32.toInt (x2_5 + 0) ≤ Int32.toInt (x3_6 + 1)) from ⟨rfl, rfl, by omega, by omega, by omega, by omega⟩) (show (6 - Int32.toInt (x3_6 + 1)).toNat < (6 - Int32.toInt x3_6).toNat by omega)
      · unfold zX10_lessThan_30
        try have t_34 : Int32.toInt (x2_5 + 1) = Int32.toInt x2_5 + 1 := ti_add rfl (by decide) (by omega) (by omega)
        try have t_35 : Int32.toInt (x3_6 + 1) = Int32.toInt x3_6 + 1 := ti_add rfl (by decide) (by omega) (by omega)
        exact hk_1 (q, p1, (x2_5 + 1), (x3_6 + 1)) (show (q = q) ∧ (p1 = p1) ∧ (0 ≤ Int32.toInt (x3_6 + 1)) ∧ (Int32.toInt (x3_6 + 1) ≤ 6) ∧ (0 ≤ Int32.toInt (x2_5 + 1)) ∧ (Int32.toInt (x2_5 + 1) ≤ Int32.toInt (x3_6 + 1)) from ⟨rfl, rfl, by omega, by omega, by omega, by omega⟩) (show (6 - Int32.toInt (x3_6 + 1)).toNat < (6 - Int32.toInt x3_6).toNat by omega)
  · exact (show (q = q) ∧ (p1 = p1) ∧ (0 ≤ (0 : Int)) ∧ ((0 : Int) ≤ 6) ∧ (0 ≤ (0 : Int)) ∧ ((0 : Int) ≤ (0 : Int)) from ⟨rfl, rfl, by omega, by omega, by omega, by omega⟩)
  · show (6 - (0 : Int)).toNat < 1000000000000
    omega
end
section
set_option maxHeartbeats 4000000 in
set_option maxRecDepth 100000 in
theorem ok_gaps (q : dS) (hT : TS q) : dOk (zX10_gaps q) (fun (o : Int32 × dS) => (o.2 = q)) := by
  unfold zX10_gaps
  refine dOk_B (ok_size q hT) (fun r_1 q_2 h_3 => ?_)
  replace h_3 : (q_2 = q) ∧ (Int32.toInt r_1 = Int32.toInt (q.1 2 29)) ∧ (0 ≤ Int32.toInt r_1 ∧ Int32.toInt r_1 ≤ 6) := h_3
  obtain ⟨i_4, i_5, i_6⟩ := h_3
  subst q_2
  have f_7 : 0 ≤ Int32.toInt (q.1 2 29) ∧ Int32.toInt (q.1 2 29) ≤ 6 := hT.1 2 29
  refine dOk_le (A := Int32.toInt r_1) (B := 0) rfl (by decide) (fun c_8 => ?_) (fun c_9 => ?_)
  · unfold zX10_gaps_37
    unfold zX10_gaps_38
    unfold zX10_gaps_41
    refine dFix_ok (fun (a : dS × Int32 × Int32) => (a.1 = q) ∧ (0 ≤ Int32.toInt a.2.2) ∧ (Int32.toInt a.2.2 ≤ 6)) (fun (a : dS × Int32 × Int32) => (6 - Int32.toInt a.2.2).toNat) ?_ _ ?_ _ (dF_gt ?_)
    · intro a ha k_11 hk_10
      obtain ⟨q_12, x1_13, x2_14⟩ := a
      replace ha : (q_12 = q) ∧ (0 ≤ Int32.toInt x2_14) ∧ (Int32.toInt x2_14 ≤ 6) := ha
      obtain ⟨a_15, a_16, a_17⟩ := ha
      show dOk (zX10_gaps_41b  (fun q x1 x2 => k_11 (q, x1, x2)) q_12 x1_13 x2_14) _
      unfold zX10_gaps_41b
      subst q_12
      refine dOk_B (ok_size q hT) (fun r_18 q_19 h_20 => ?_)
      replace h_20 : (q_19 = q) ∧ (Int32.toInt r_18 = Int32.toInt (q.1 2 29)) ∧ (0 ≤ Int32.toInt r_18 ∧ Int32.toInt r_18 ≤ 6) := h_20
      obtain ⟨i_21, i_22, i_23⟩ := h_20
      subst q_19
      try have t_24 : Int32.toInt (x2_14 + 1) = Int32.toInt x2_14 + 1 := ti_add rfl (by decide) (by omega) (by omega)
      refine dOk_le (A := Int32.toInt r_18) (B := Int32.toInt (x2_14 + 1)) rfl rfl (fun c_25 => ?_) (fun c_26 => ?_)
      · exact dOk_some (show (q = q) from rfl)
      · try have t_27 : Int32.toInt (0 + x2_14) = 0 + Int32.toInt x2_14 := ti_add (by decide) rfl (by omega) (by omega)
        refine dOk_G (dg_ok (show 0 ≤ Int32.toInt (0 + x2_14) by omega) (show Int32.toInt (0 + x2_14) < ((5640 : Nat) : Int) by omega)) ?_
        have n_28 : ((Int32.toNatClampNeg (0 + x2_14) : Nat) : Int) = Int32.toInt (0 + x2_14) := cl_eq (by omega)
        refine dOk_L (fun v_29 ev_29 => ?_)
        try have g_30 : klo (Int32.toNatClampNeg (0 + x2_14)) ≤ Int32.toInt v_29 ∧ Int32.toInt v_29 ≤ khi (Int32.toNatClampNeg (0 + x2_14)) := by rw [ev_29]; exact te_k hT _
        try have f_31 : 0 ≤ Int32.toInt v_29 ∧ Int32.toInt v_29 ≤ 5 := by rw [ev_29]; exact te_2r hT (by omega) (by omega)
        try have f_32 : 0 ≤ Int32.toInt v_29 ∧ Int32.toInt v_29 ≤ 1 := by rw [ev_29]; exact te_2h hT (by omega) (by omega)
        try have f_33 : 0 ≤ Int32.toInt v_29 ∧ Int32.toInt v_29 ≤ 5 := by rw [ev_29]; exact te_2s hT (by omega) (by omega)
        try have f_34 : 0 ≤ Int32.toInt v_29 ∧ Int32.toInt v_29 ≤ 400 := by rw [ev_29]; exact te_2z hT (by omega) (by omega)
        refine dOk_B (ok_lessThan q v_29 hT) (fun r_35 q_36 h_37 => ?_)
        replace h_37 : (q_36 = q) ∧ (0 ≤ Int32.toInt r_35 ∧ Int32.toInt r_35 ≤ 6) := h_37
        obtain ⟨i_38, i_39⟩ := h_37
        subst q_36
        try have t_40 : Int32.toInt (0 + x2_14 + 1) = Int32.toInt (0 + x2_14) + 1 := ti_add rfl (by decide) (by omega) (by omega)
        refine dOk_G (dg_ok (show 0 ≤ Int32.toInt (0 + x2_14 + 1) by omega) (show Int32.toInt (0 + x2_14 + 1) < ((5640 : Nat) : Int) by omega)) ?_
        have n_41 : ((Int32.toNatClampNeg (0 + x2_14 + 1) : Nat) : Int) = Int32.toInt (0 + x2_14 + 1) := cl_eq (by omega)
        refine dOk_L (fun v_42 ev_42 => ?_)
        try have g_43 : klo (Int32.toNatClampNeg (0 + x2_14 + 1)) ≤ Int32.toInt v_42 ∧ Int32.toInt v_42 ≤ khi (Int32.toNatClampNeg (0 + x2_14 + 1)) := by rw [ev_42]; exact te_k hT _
        try have f_44 : 0 ≤ Int32.toInt v_42 ∧ Int32.toInt v_42 ≤ 5 := by rw [ev_42]; exact te_2r hT (by omega) (by omega)
        try have f_45 : 0 ≤ Int32.toInt v_42 ∧ Int32.toInt v_42 ≤ 1 := by rw [ev_42]; exact te_2h hT (by omega) (by omega)
        try have f_46 : 0 ≤ Int32.toInt v_42 ∧ Int32.toInt v_42 ≤ 5 := by rw [ev_42]; exact te_2s hT (by omega) (by omega)
        try have f_47 : 0 ≤ Int32.toInt v_42 ∧ Int32.toInt v_42 ≤ 400 := by rw [ev_42]; exact te_2z hT (by omega) (by omega)
        refine dOk_B (ok_lessThan q v_42 hT) (fun r_48 q_49 h_50 => ?_)
        replace h_50 : (q_49 = q) ∧ (0 ≤ Int32.toInt r_48 ∧ Int32.toInt r_48 ≤ 6) := h_50
        obtain ⟨i_51, i_52⟩ := h_50
        subst q_49
        try have t_53 : Int32.toInt (r_35 - r_48) = Int32.toInt r_35 - Int32.toInt r_48 := ti_sub rfl rfl (by omega) (by omega)
        refine dOk_eq (A := Int32.toInt (r_35 - r_48)) (B := 1) rfl (by decide) (fun c_54z c_54 => ?_) (fun c_55z c_55 => ?_)
        · unfold zX10_gaps_90
          unfold zX10_gaps_95
          try have t_57 : Int32.toInt (x1_13 + 0) = Int32.toInt x1_13 + 0 := ti_add rfl (by decide) (by omega) (by omega)
          exact hk_10 (q, (x1_13 + 0), (x2_14 + 1)) (show (q = q) ∧ (0 ≤ Int32.toInt (x2_14 + 1)) ∧ (Int32.toInt (x2_14 + 1) ≤ 6) from ⟨rfl, by omega, by omega⟩) (show (6 - Int32.toInt (x2_14 + 1)).toNat < (6 - Int32.toInt x2_14).toNat by omega)
        · refine dOk_eq (A := Int32.toInt (r_35 - r_48)) (B := (-1)) rfl (by decide) (fun c_58z c_58 => ?_) (fun c_59z c_59 => ?_)
          · unfold zX10_gaps_90
            unfold zX10_gaps_95
            try have t_61 : Int32.toInt (x1_13 + 0) = Int32.toInt x1_13 + 0 := ti_add rfl (by decide) (by omega) (by omega)
            exact hk_10 (q, (x1_13 + 0), (x2_14 + 1)) (show (q = q) ∧ (0 ≤ Int32.toInt (x2_14 + 1)) ∧ (Int32.toInt (x2_14 + 1) ≤ 6) from ⟨rfl, by omega, by omega⟩) (show (6 - Int32.toInt (x2_14 + 1)).toNat < (6 - Int32.toInt x2_14).toNat by omega)
          · unfold zX10_gaps_95
            try have t_62 : Int32.toInt (x1_13 + 1) = Int32.toInt x1_13 + 1 := ti_add rfl (by decide) (by omega) (by omega)
            exact hk_10 (q, (x1_13 + 1), (x2_14 + 1)) (show (q = q) ∧ (0 ≤ Int32.toInt (x2_14 + 1)) ∧ (Int32.toInt (x2_14 + 1) ≤ 6) from ⟨rfl, by omega, by omega⟩) (show (6 - Int32.toInt (x2_14 + 1)).toNat < (6 - Int32.toInt x2_14).toNat by omega)
    · exact (show (q = q) ∧ (0 ≤ (0 : Int)) ∧ ((0 : Int) ≤ 6) from ⟨rfl, by omega, by omega⟩)
    · show (6 - (0 : Int)).toNat < 1000000000000
      omega
  · refine dOk_B (ok_size q hT) (fun r_63 q_64 h_65 => ?_)
    replace h_65 : (q_64 = q) ∧ (Int32.toInt r_63 = Int32.toInt (q.1 2 29)) ∧ (0 ≤ Int32.toInt r_63 ∧ Int32.toInt r_63 ≤ 6) := h_65
    obtain ⟨i_66, i_67, i_68⟩ := h_65
    subst q_64
    try have t_69 : Int32.toInt (0 + r_63) = 0 + Int32.toInt r_63 := ti_add (by decide) rfl (by omega) (by omega)
    try have t_70 : Int32.toInt (0 + r_63 - 1) = Int32.toInt (0 + r_63) - 1 := ti_sub rfl (by decide) (by omega) (by omega)
    refine dOk_G (dg_ok (show 0 ≤ Int32.toInt (0 + r_63 - 1) by omega) (show Int32.toInt (0 + r_63 - 1) < ((5640 : Nat) : Int) by omega)) ?_
    have n_71 : ((Int32.toNatClampNeg (0 + r_63 - 1) : Nat) : Int) = Int32.toInt (0 + r_63 - 1) := cl_eq (by omega)
    refine dOk_L (fun v_72 ev_72 => ?_)
    try have g_73 : klo (Int32.toNatClampNeg (0 + r_63 - 1)) ≤ Int32.toInt v_72 ∧ Int32.toInt v_72 ≤ khi (Int32.toNatClampNeg (0 + r_63 - 1)) := by rw [ev_72]; exact te_k hT _
    try have f_74 : 0 ≤ Int32.toInt v_72 ∧ Int32.toInt v_72 ≤ 5 := by rw [ev_72]; exact te_2r hT (by omega) (by omega)
    try have f_75 : 0 ≤ Int32.toInt v_72 ∧ Int32.toInt v_72 ≤ 1 := by rw [ev_72]; exact te_2h hT (by omega) (by omega)
    try have f_76 : 0 ≤ Int32.toInt v_72 ∧ Int32.toInt v_72 ≤ 5 := by rw [ev_72]; exact te_2s hT (by omega) (by omega)
    try have f_77 : 0 ≤ Int32.toInt v_72 ∧ Int32.toInt v_72 ≤ 400 := by rw [ev_72]; exact te_2z hT (by omega) (by omega)
    refine dOk_B (ok_lessThan q v_72 hT) (fun r_78 q_79 h_80 => ?_)
    replace h_80 : (q_79 = q) ∧ (0 ≤ Int32.toInt r_78 ∧ Int32.toInt r_78 ≤ 6) := h_80
    obtain ⟨i_81, i_82⟩ := h_80
    subst q_79
    refine dOk_B (ok_size q hT) (fun r_83 q_84 h_85 => ?_)
    replace h_85 : (q_84 = q) ∧ (Int32.toInt r_83 = Int32.toInt (q.1 2 29)) ∧ (0 ≤ Int32.toInt r_83 ∧ Int32.toInt r_83 ≤ 6) := h_85
    obtain ⟨i_86, i_87, i_88⟩ := h_85
    subst q_84
    try have t_89 : Int32.toInt (r_83 - 1) = Int32.toInt r_83 - 1 := ti_sub rfl (by decide) (by omega) (by omega)
    refine dOk_le (A := Int32.toInt (r_83 - 1)) (B := Int32.toInt r_78) rfl rfl (fun c_90 => ?_) (fun c_91 => ?_)
    · unfold zX10_gaps_37
      unfold zX10_gaps_38
      unfold zX10_gaps_41
      refine dFix_ok (fun (a : dS × Int32 × Int32) => (a.1 = q) ∧ (0 ≤ Int32.toInt a.2.2) ∧ (Int32.toInt a.2.2 ≤ 6)) (fun (a : dS × Int32 × Int32) => (6 - Int32.toInt a.2.2).toNat) ?_ _ ?_ _ (dF_gt ?_)
      · intro a ha k_93 hk_92
        obtain ⟨q_94, x1_95, x2_96⟩ := a
        replace ha : (q_94 = q) ∧ (0 ≤ Int32.toInt x2_96) ∧ (Int32.toInt x2_96 ≤ 6) := ha
        obtain ⟨a_97, a_98, a_99⟩ := ha
        show dOk (zX10_gaps_41b  (fun q x1 x2 => k_93 (q, x1, x2)) q_94 x1_95 x2_96) _
        unfold zX10_gaps_41b
        subst q_94
        refine dOk_B (ok_size q hT) (fun r_100 q_101 h_102 => ?_)
        replace h_102 : (q_101 = q) ∧ (Int32.toInt r_100 = Int32.toInt (q.1 2 29)) ∧ (0 ≤ Int32.toInt r_100 ∧ Int32.toInt r_100 ≤ 6) := h_102
        obtain ⟨i_103, i_104, i_105⟩ := h_102
        subst q_101
        try have t_106 : Int32.toInt (x2_96 + 1) = Int32.toInt x2_96 + 1 := ti_add rfl (by decide) (by omega) (by omega)
        refine dOk_le (A := Int32.toInt r_100) (B := Int32.toInt (x2_96 + 1)) rfl rfl (fun c_107 => ?_) (fun c_108 => ?_)
        · exact dOk_some (show (q = q) from rfl)
        · try have t_109 : Int32.toInt (0 + x2_96) = 0 + Int32.toInt x2_96 := ti_add (by decide) rfl (by omega) (by omega)
          refine dOk_G (dg_ok (show 0 ≤ Int32.toInt (0 + x2_96) by omega) (show Int32.toInt (0 + x2_96) < ((5640 : Nat) : Int) by omega)) ?_
          have n_110 : ((Int32.toNatClampNeg (0 + x2_96) : Nat) : Int) = Int32.toInt (0 + x2_96) := cl_eq (by omega)
          refine dOk_L (fun v_111 ev_111 => ?_)
          try have g_112 : klo (Int32.toNatClampNeg (0 + x2_96)) ≤ Int32.toInt v_111 ∧ Int32.toInt v_111 ≤ khi (Int32.toNatClampNeg (0 + x2_96)) := by rw [ev_111]; exact te_k hT _
          try have f_113 : 0 ≤ Int32.toInt v_111 ∧ Int32.toInt v_111 ≤ 5 := by rw [ev_111]; exact te_2r hT (by omega) (by omega)
          try have f_114 : 0 ≤ Int32.toInt v_111 ∧ Int32.toInt v_111 ≤ 1 := by rw [ev_111]; exact te_2h hT (by omega) (by omega)
          try have f_115 : 0 ≤ Int32.toInt v_111 ∧ Int32.toInt v_111 ≤ 5 := by rw [ev_111]; exact te_2s hT (by omega) (by omega)
          try have f_116 : 0 ≤ Int32.toInt v_111 ∧ Int32.toInt v_111 ≤ 400 := by rw [ev_111]; exact te_2z hT (by omega) (by omega)
          refine dOk_B (ok_lessThan q v_111 hT) (fun r_117 q_118 h_119 => ?_)
          replace h_119 : (q_118 = q) ∧ (0 ≤ Int32.toInt r_117 ∧ Int32.toInt r_117 ≤ 6) := h_119
          obtain ⟨i_120, i_121⟩ := h_119
          subst q_118
          try have t_122 : Int32.toInt (0 + x2_96 + 1) = Int32.toInt (0 + x2_96) + 1 := ti_add rfl (by decide) (by omega) (by omega)
          refine dOk_G (dg_ok (show 0 ≤ Int32.toInt (0 + x2_96 + 1) by omega) (show Int32.toInt (0 + x2_96 + 1) < ((5640 : Nat) : Int) by omega)) ?_
          have n_123 : ((Int32.toNatClampNeg (0 + x2_96 + 1) : Nat) : Int) = Int32.toInt (0 + x2_96 + 1) := cl_eq (by omega)
          refine dOk_L (fun v_124 ev_124 => ?_)
          try have g_125 : klo (Int32.toNatClampNeg (0 + x2_96 + 1)) ≤ Int32.toInt v_124 ∧ Int32.toInt v_124 ≤ khi (Int32.toNatClampNeg (0 + x2_96 + 1)) := by rw [ev_124]; exact te_k hT _
          try have f_126 : 0 ≤ Int32.toInt v_124 ∧ Int32.toInt v_124 ≤ 5 := by rw [ev_124]; exact te_2r hT (by omega) (by omega)
          try have f_127 : 0 ≤ Int32.toInt v_124 ∧ Int32.toInt v_124 ≤ 1 := by rw [ev_124]; exact te_2h hT (by omega) (by omega)
          try have f_128 : 0 ≤ Int32.toInt v_124 ∧ Int32.toInt v_124 ≤ 5 := by rw [ev_124]; exact te_2s hT (by omega) (by omega)
          try have f_129 : 0 ≤ Int32.toInt v_124 ∧ Int32.toInt v_124 ≤ 400 := by rw [ev_124]; exact te_2z hT (by omega) (by omega)
          refine dOk_B (ok_lessThan q v_124 hT) (fun r_130 q_131 h_132 => ?_)
          replace h_132 : (q_131 = q) ∧ (0 ≤ Int32.toInt r_130 ∧ Int32.toInt r_130 ≤ 6) := h_132
          obtain ⟨i_133, i_134⟩ := h_132
          subst q_131
          try have t_135 : Int32.toInt (r_117 - r_130) = Int32.toInt r_117 - Int32.toInt r_130 := ti_sub rfl rfl (by omega) (by omega)
          refine dOk_eq (A := Int32.toInt (r_117 - r_130)) (B := 1) rfl (by decide) (fun c_136z c_136 => ?_) (fun c_137z c_137 => ?_)
          · unfold zX10_gaps_90
            unfold zX10_gaps_95
            try have t_139 : Int32.toInt (x1_95 + 0) = Int32.toInt x1_95 + 0 := ti_add rfl (by decide) (by omega) (by omega)
            exact hk_92 (q, (x1_95 + 0), (x2_96 + 1)) (show (q = q) ∧ (0 ≤ Int32.toInt (x2_96 + 1)) ∧ (Int32.toInt (x2_96 + 1) ≤ 6) from ⟨rfl, by omega, by omega⟩) (show (6 - Int32.toInt (x2_96 + 1)).toNat < (6 - Int32.toInt x2_96).toNat by omega)
          · refine dOk_eq (A := Int32.toInt (r_117 - r_130)) (B := (-1)) rfl (by decide) (fun c_140z c_140 => ?_) (fun c_141z c_141 => ?_)
            · unfold zX10_gaps_90
              unfold zX10_gaps_95
              try have t_143 : Int32.toInt (x1_95 + 0) = Int32.toInt x1_95 + 0 := ti_add rfl (by decide) (by omega) (by omega)
              exact hk_92 (q, (x1_95 + 0), (x2_96 + 1)) (show (q = q) ∧ (0 ≤ Int32.toInt (x2_96 + 1)) ∧ (Int32.toInt (x2_96 + 1) ≤ 6) from ⟨rfl, by omega, by omega⟩) (show (6 - Int32.toInt (x2_96 + 1)).toNat < (6 - Int32.toInt x2_96).toNat by omega)
            · unfold zX10_gaps_95
              try have t_144 : Int32.toInt (x1_95 + 1) = Int32.toInt x1_95 + 1 := ti_add rfl (by decide) (by omega) (by omega)
              exact hk_92 (q, (x1_95 + 1), (x2_96 + 1)) (show (q = q) ∧ (0 ≤ Int32.toInt (x2_96 + 1)) ∧ (Int32.toInt (x2_96 + 1) ≤ 6) from ⟨rfl, by omega, by omega⟩) (show (6 - Int32.toInt (x2_96 + 1)).toNat < (6 - Int32.toInt x2_96).toNat by omega)
      · exact (show (q = q) ∧ (0 ≤ (0 : Int)) ∧ ((0 : Int) ≤ 6) from ⟨rfl, by omega, by omega⟩)
      · show (6 - (0 : Int)).toNat < 1000000000000
        omega
    · unfold zX10_gaps_38
      unfold zX10_gaps_41
      refine dFix_ok (fun (a : dS × Int32 × Int32) => (a.1 = q) ∧ (0 ≤ Int32.toInt a.2.2) ∧ (Int32.toInt a.2.2 ≤ 6)) (fun (a : dS × Int32 × Int32) => (6 - Int32.toInt a.2.2).toNat) ?_ _ ?_ _ (dF_gt ?_)
      · intro a ha k_146 hk_145
        obtain ⟨q_147, x1_148, x2_149⟩ := a
        replace ha : (q_147 = q) ∧ (0 ≤ Int32.toInt x2_149) ∧ (Int32.toInt x2_149 ≤ 6) := ha
        obtain ⟨a_150, a_151, a_152⟩ := ha
        show dOk (zX10_gaps_41b  (fun q x1 x2 => k_146 (q, x1, x2)) q_147 x1_148 x2_149) _
        unfold zX10_gaps_41b
        subst q_147
        refine dOk_B (ok_size q hT) (fun r_153 q_154 h_155 => ?_)
        replace h_155 : (q_154 = q) ∧ (Int32.toInt r_153 = Int32.toInt (q.1 2 29)) ∧ (0 ≤ Int32.toInt r_153 ∧ Int32.toInt r_153 ≤ 6) := h_155
        obtain ⟨i_156, i_157, i_158⟩ := h_155
        subst q_154
        try have t_159 : Int32.toInt (x2_149 + 1) = Int32.toInt x2_149 + 1 := ti_add rfl (by decide) (by omega) (by omega)
        refine dOk_le (A := Int32.toInt r_153) (B := Int32.toInt (x2_149 + 1)) rfl rfl (fun c_160 => ?_) (fun c_161 => ?_)
        · exact dOk_some (show (q = q) from rfl)
        · try have t_162 : Int32.toInt (0 + x2_149) = 0 + Int32.toInt x2_149 := ti_add (by decide) rfl (by omega) (by omega)
          refine dOk_G (dg_ok (show 0 ≤ Int32.toInt (0 + x2_149) by omega) (show Int32.toInt (0 + x2_149) < ((5640 : Nat) : Int) by omega)) ?_
          have n_163 : ((Int32.toNatClampNeg (0 + x2_149) : Nat) : Int) = Int32.toInt (0 + x2_149) := cl_eq (by omega)
          refine dOk_L (fun v_164 ev_164 => ?_)
          try have g_165 : klo (Int32.toNatClampNeg (0 + x2_149)) ≤ Int32.toInt v_164 ∧ Int32.toInt v_164 ≤ khi (Int32.toNatClampNeg (0 + x2_149)) := by rw [ev_164]; exact te_k hT _
          try have f_166 : 0 ≤ Int32.toInt v_164 ∧ Int32.toInt v_164 ≤ 5 := by rw [ev_164]; exact te_2r hT (by omega) (by omega)
          try have f_167 : 0 ≤ Int32.toInt v_164 ∧ Int32.toInt v_164 ≤ 1 := by rw [ev_164]; exact te_2h hT (by omega) (by omega)
          try have f_168 : 0 ≤ Int32.toInt v_164 ∧ Int32.toInt v_164 ≤ 5 := by rw [ev_164]; exact te_2s hT (by omega) (by omega)
          try have f_169 : 0 ≤ Int32.toInt v_164 ∧ Int32.toInt v_164 ≤ 400 := by rw [ev_164]; exact te_2z hT (by omega) (by omega)
          refine dOk_B (ok_lessThan q v_164 hT) (fun r_170 q_171 h_172 => ?_)
          replace h_172 : (q_171 = q) ∧ (0 ≤ Int32.toInt r_170 ∧ Int32.toInt r_170 ≤ 6) := h_172
          obtain ⟨i_173, i_174⟩ := h_172
          subst q_171
          try have t_175 : Int32.toInt (0 + x2_149 + 1) = Int32.toInt (0 + x2_149) + 1 := ti_add rfl (by decide) (by omega) (by omega)
          refine dOk_G (dg_ok (show 0 ≤ Int32.toInt (0 + x2_149 + 1) by omega) (show Int32.toInt (0 + x2_149 + 1) < ((5640 : Nat) : Int) by omega)) ?_
          have n_176 : ((Int32.toNatClampNeg (0 + x2_149 + 1) : Nat) : Int) = Int32.toInt (0 + x2_149 + 1) := cl_eq (by omega)
          refine dOk_L (fun v_177 ev_177 => ?_)
          try have g_178 : klo (Int32.toNatClampNeg (0 + x2_149 + 1)) ≤ Int32.toInt v_177 ∧ Int32.toInt v_177 ≤ khi (Int32.toNatClampNeg (0 + x2_149 + 1)) := by rw [ev_177]; exact te_k hT _
          try have f_179 : 0 ≤ Int32.toInt v_177 ∧ Int32.toInt v_177 ≤ 5 := by rw [ev_177]; exact te_2r hT (by omega) (by omega)
          try have f_180 : 0 ≤ Int32.toInt v_177 ∧ Int32.toInt v_177 ≤ 1 := by rw [ev_177]; exact te_2h hT (by omega) (by omega)
          try have f_181 : 0 ≤ Int32.toInt v_177 ∧ Int32.toInt v_177 ≤ 5 := by rw [ev_177]; exact te_2s hT (by omega) (by omega)
          try have f_182 : 0 ≤ Int32.toInt v_177 ∧ Int32.toInt v_177 ≤ 400 := by rw [ev_177]; exact te_2z hT (by omega) (by omega)
          refine dOk_B (ok_lessThan q v_177 hT) (fun r_183 q_184 h_185 => ?_)
          replace h_185 : (q_184 = q) ∧ (0 ≤ Int32.toInt r_183 ∧ Int32.toInt r_183 ≤ 6) := h_185
          obtain ⟨i_186, i_187⟩ := h_185
          subst q_184
          try have t_188 : Int32.toInt (r_170 - r_183) = Int32.toInt r_170 - Int32.toInt r_183 := ti_sub rfl rfl (by omega) (by omega)
          refine dOk_eq (A := Int32.toInt (r_170 - r_183)) (B := 1) rfl (by decide) (fun c_189z c_189 => ?_) (fun c_190z c_190 => ?_)
          · unfold zX10_gaps_90
            unfold zX10_gaps_95
            try have t_192 : Int32.toInt (x1_148 + 0) = Int32.toInt x1_148 + 0 := ti_add rfl (by decide) (by omega) (by omega)
            exact hk_145 (q, (x1_148 + 0), (x2_149 + 1)) (show (q = q) ∧ (0 ≤ Int32.toInt (x2_149 + 1)) ∧ (Int32.toInt (x2_149 + 1) ≤ 6) from ⟨rfl, by omega, by omega⟩) (show (6 - Int32.toInt (x2_149 + 1)).toNat < (6 - Int32.toInt x2_149).toNat by omega)
          · refine dOk_eq (A := Int32.toInt (r_170 - r_183)) (B := (-1)) rfl (by decide) (fun c_193z c_193 => ?_) (fun c_194z c_194 => ?_)
            · unfold zX10_gaps_90
              unfold zX10_gaps_95
              try have t_196 : Int32.toInt (x1_148 + 0) = Int32.toInt x1_148 + 0 := ti_add rfl (by decide) (by omega) (by omega)
              exact hk_145 (q, (x1_148 + 0), (x2_149 + 1)) (show (q = q) ∧ (0 ≤ Int32.toInt (x2_149 + 1)) ∧ (Int32.toInt (x2_149 + 1) ≤ 6) from ⟨rfl, by omega, by omega⟩) (show (6 - Int32.toInt (x2_149 + 1)).toNat < (6 - Int32.toInt x2_149).toNat by omega)
            · unfold zX10_gaps_95
              try have t_197 : Int32.toInt (x1_148 + 1) = Int32.toInt x1_148 + 1 := ti_add rfl (by decide) (by omega) (by omega)
              exact hk_145 (q, (x1_148 + 1), (x2_149 + 1)) (show (q = q) ∧ (0 ≤ Int32.toInt (x2_149 + 1)) ∧ (Int32.toInt (x2_149 + 1) ≤ 6) from ⟨rfl, by omega, by omega⟩) (show (6 - Int32.toInt (x2_149 + 1)).toNat < (6 - Int32.toInt x2_149).toNat by omega)
      · exact (show (q = q) ∧ (0 ≤ (0 : Int)) ∧ ((0 : Int) ≤ 6) from ⟨rfl, by omega, by omega⟩)
      · show (6 - (0 : Int)).toNat < 1000000000000
        omega

set_option maxHeartbeats 4000000 in
set_option maxRecDepth 100000 in
theorem ok_orderValue (q : dS) (p1 : Int32) (p2 : Int32) (hT : TS q) : dOk (zX10_orderValue q p1 p2) (fun (o : Int32 × dS) => (o.2 = q)) := by
  unfold zX10_orderValue
  refine dOk_eq (A := Int32.toInt p1) (B := 15) rfl (by decide) (fun c_1z c_1 => ?_) (fun c_2z c_2 => ?_)
  · refine dOk_B (ok_isPlace q p2 hT) (fun r_4 q_5 h_6 => ?_)
    replace h_6 : (q_5 = q) ∧ ((Int32.toInt r_4 = 1 ∧ 0 ≤ Int32.toInt p2 ∧ Int32.toInt p2 < Int32.toInt (q.1 2 29)) ∨ (Int32.toInt r_4 = 0 ∧ (Int32.toInt p2 < 0 ∨ Int32.toInt (q.1 2 29) ≤ Int32.toInt p2))) := h_6
    obtain ⟨i_7, i_8⟩ := h_6
    subst q_5
    have f_9 : 0 ≤ Int32.toInt (q.1 2 29) ∧ Int32.toInt (q.1 2 29) ≤ 6 := hT.1 2 29
    refine dOk_eq (A := Int32.toInt r_4) (B := 0) rfl (by decide) (fun c_10z c_10 => ?_) (fun c_11z c_11 => ?_)
    · unfold zX10_orderValue_65
      exact dOk_some (show (q = q) from rfl)
    · try have t_13 : Int32.toInt (6 + p2) = 6 + Int32.toInt p2 := ti_add (by decide) rfl (by omega) (by omega)
      refine dOk_G (dg_ok (show 0 ≤ Int32.toInt (6 + p2) by omega) (show Int32.toInt (6 + p2) < ((5640 : Nat) : Int) by omega)) ?_
      have n_14 : ((Int32.toNatClampNeg (6 + p2) : Nat) : Int) = Int32.toInt (6 + p2) := cl_eq (by omega)
      refine dOk_L (fun v_15 ev_15 => ?_)
      try have g_16 : klo (Int32.toNatClampNeg (6 + p2)) ≤ Int32.toInt v_15 ∧ Int32.toInt v_15 ≤ khi (Int32.toNatClampNeg (6 + p2)) := by rw [ev_15]; exact te_k hT _
      try have f_17 : 0 ≤ Int32.toInt v_15 ∧ Int32.toInt v_15 ≤ 5 := by rw [ev_15]; exact te_2r hT (by omega) (by omega)
      try have f_18 : 0 ≤ Int32.toInt v_15 ∧ Int32.toInt v_15 ≤ 1 := by rw [ev_15]; exact te_2h hT (by omega) (by omega)
      try have f_19 : 0 ≤ Int32.toInt v_15 ∧ Int32.toInt v_15 ≤ 5 := by rw [ev_15]; exact te_2s hT (by omega) (by omega)
      try have f_20 : 0 ≤ Int32.toInt v_15 ∧ Int32.toInt v_15 ≤ 400 := by rw [ev_15]; exact te_2z hT (by omega) (by omega)
      unfold zX10_orderValue_65
      exact dOk_some (show (q = q) from rfl)
  · refine dOk_eq (A := Int32.toInt p1) (B := 16) rfl (by decide) (fun c_21z c_21 => ?_) (fun c_22z c_22 => ?_)
    · have f_24 : 0 ≤ Int32.toInt (q.1 2 13) ∧ Int32.toInt (q.1 2 13) ≤ 999 := hT.1 2 13
      exact dOk_some (show (q = q) from rfl)
    · refine dOk_eq (A := Int32.toInt p1) (B := 17) rfl (by decide) (fun c_25z c_25 => ?_) (fun c_26z c_26 => ?_)
      · exact dOk_some (show (q = q) from rfl)
      · refine dOk_eq (A := Int32.toInt p1) (B := 18) rfl (by decide) (fun c_28z c_28 => ?_) (fun c_29z c_29 => ?_)
        · exact dOk_some (show (q = q) from rfl)
        · refine dOk_eq (A := Int32.toInt p1) (B := 19) rfl (by decide) (fun c_31z c_31 => ?_) (fun c_32z c_32 => ?_)
          · have f_34 : 0 ≤ Int32.toInt (q.1 2 12) ∧ Int32.toInt (q.1 2 12) ≤ 9999 := hT.1 2 12
            exact dOk_some (show (q = q) from rfl)
          · refine dOk_eq (A := Int32.toInt p1) (B := 20) rfl (by decide) (fun c_35z c_35 => ?_) (fun c_36z c_36 => ?_)
            · refine dOk_B (ok_gaps q hT) (fun r_38 q_39 h_40 => ?_)
              replace h_40 : (q_39 = q) := h_40
              have i_41 := h_40
              subst q_39
              exact dOk_some (show (q = q) from rfl)
            · refine dOk_eq (A := Int32.toInt p1) (B := 21) rfl (by decide) (fun c_42z c_42 => ?_) (fun c_43z c_43 => ?_)
              · refine dOk_B (ok_isPlace q p2 hT) (fun r_45 q_46 h_47 => ?_)
                replace h_47 : (q_46 = q) ∧ ((Int32.toInt r_45 = 1 ∧ 0 ≤ Int32.toInt p2 ∧ Int32.toInt p2 < Int32.toInt (q.1 2 29)) ∨ (Int32.toInt r_45 = 0 ∧ (Int32.toInt p2 < 0 ∨ Int32.toInt (q.1 2 29) ≤ Int32.toInt p2))) := h_47
                obtain ⟨i_48, i_49⟩ := h_47
                subst q_46
                have f_50 : 0 ≤ Int32.toInt (q.1 2 29) ∧ Int32.toInt (q.1 2 29) ≤ 6 := hT.1 2 29
                refine dOk_eq (A := Int32.toInt r_45) (B := 0) rfl (by decide) (fun c_51z c_51 => ?_) (fun c_52z c_52 => ?_)
                · unfold zX10_orderValue_86
                  exact dOk_some (show (q = q) from rfl)
                · try have t_54 : Int32.toInt (0 + p2) = 0 + Int32.toInt p2 := ti_add (by decide) rfl (by omega) (by omega)
                  refine dOk_G (dg_ok (show 0 ≤ Int32.toInt (0 + p2) by omega) (show Int32.toInt (0 + p2) < ((5640 : Nat) : Int) by omega)) ?_
                  have n_55 : ((Int32.toNatClampNeg (0 + p2) : Nat) : Int) = Int32.toInt (0 + p2) := cl_eq (by omega)
                  refine dOk_L (fun v_56 ev_56 => ?_)
                  try have g_57 : klo (Int32.toNatClampNeg (0 + p2)) ≤ Int32.toInt v_56 ∧ Int32.toInt v_56 ≤ khi (Int32.toNatClampNeg (0 + p2)) := by rw [ev_56]; exact te_k hT _
                  try have f_58 : 0 ≤ Int32.toInt v_56 ∧ Int32.toInt v_56 ≤ 5 := by rw [ev_56]; exact te_2r hT (by omega) (by omega)
                  try have f_59 : 0 ≤ Int32.toInt v_56 ∧ Int32.toInt v_56 ≤ 1 := by rw [ev_56]; exact te_2h hT (by omega) (by omega)
                  try have f_60 : 0 ≤ Int32.toInt v_56 ∧ Int32.toInt v_56 ≤ 5 := by rw [ev_56]; exact te_2s hT (by omega) (by omega)
                  try have f_61 : 0 ≤ Int32.toInt v_56 ∧ Int32.toInt v_56 ≤ 400 := by rw [ev_56]; exact te_2z hT (by omega) (by omega)
                  unfold zX10_orderValue_86
                  exact dOk_some (show (q = q) from rfl)
              · refine dOk_B (ok_gaps q hT) (fun r_62 q_63 h_64 => ?_)
                replace h_64 : (q_63 = q) := h_64
                have i_65 := h_64
                subst q_63
                exact dOk_some (show (q = q) from rfl)

set_option maxHeartbeats 4000000 in
set_option maxRecDepth 100000 in
theorem ok_isTerm (p1 : Int32) (p2 : Int32) : dOk (zX10_isTerm p1 p2) (fun (o : Int32) => ((Int32.toInt o = 1 ∧ ((Int32.toInt p1 = 0 ∧ 0 ≤ Int32.toInt p2 ∧ Int32.toInt p2 ≤ 999) ∨ (Int32.toInt p1 = 1 ∧ 0 ≤ Int32.toInt p2 ∧ Int32.toInt p2 ≤ 10) ∨ (Int32.toInt p1 = 2 ∧ 0 ≤ Int32.toInt p2 ∧ Int32.toInt p2 ≤ 9) ∨ (Int32.toInt p1 = 3 ∧ 0 ≤ Int32.toInt p2 ∧ Int32.toInt p2 ≤ 1))) ∨ Int32.toInt o = 0)) := by
  unfold zX10_isTerm
  refine dOk_eq (A := Int32.toInt p1) (B := 0) rfl (by decide) (fun c_1z c_1 => ?_) (fun c_2z c_2 => ?_)
  · refine dOk_V (ok_lies p2 0 999) (fun r_4 h_5 => ?_)
    replace h_5 : ((Int32.toInt r_4 = 1 ∧ (0 : Int) ≤ Int32.toInt p2 ∧ Int32.toInt p2 ≤ (999 : Int)) ∨ (Int32.toInt r_4 = 0 ∧ (Int32.toInt p2 < (0 : Int) ∨ (999 : Int) < Int32.toInt p2))) := h_5
    have i_6 := h_5
    refine dOk_G (dbl_ok (show Int32.toInt r_4 = 0 ∨ Int32.toInt r_4 = 1 by omega)) ?_
    exact dOk_some (show ((Int32.toInt r_4 = 1 ∧ ((Int32.toInt p1 = 0 ∧ 0 ≤ Int32.toInt p2 ∧ Int32.toInt p2 ≤ 999) ∨ (Int32.toInt p1 = 1 ∧ 0 ≤ Int32.toInt p2 ∧ Int32.toInt p2 ≤ 10) ∨ (Int32.toInt p1 = 2 ∧ 0 ≤ Int32.toInt p2 ∧ Int32.toInt p2 ≤ 9) ∨ (Int32.toInt p1 = 3 ∧ 0 ≤ Int32.toInt p2 ∧ Int32.toInt p2 ≤ 1))) ∨ Int32.toInt r_4 = 0) from (by omega))
  · refine dOk_eq (A := Int32.toInt p1) (B := 1) rfl (by decide) (fun c_7z c_7 => ?_) (fun c_8z c_8 => ?_)
    · refine dOk_V (ok_lies p2 0 10) (fun r_10 h_11 => ?_)
      replace h_11 : ((Int32.toInt r_10 = 1 ∧ (0 : Int) ≤ Int32.toInt p2 ∧ Int32.toInt p2 ≤ (10 : Int)) ∨ (Int32.toInt r_10 = 0 ∧ (Int32.toInt p2 < (0 : Int) ∨ (10 : Int) < Int32.toInt p2))) := h_11
      have i_12 := h_11
      refine dOk_G (dbl_ok (show Int32.toInt r_10 = 0 ∨ Int32.toInt r_10 = 1 by omega)) ?_
      exact dOk_some (show ((Int32.toInt r_10 = 1 ∧ ((Int32.toInt p1 = 0 ∧ 0 ≤ Int32.toInt p2 ∧ Int32.toInt p2 ≤ 999) ∨ (Int32.toInt p1 = 1 ∧ 0 ≤ Int32.toInt p2 ∧ Int32.toInt p2 ≤ 10) ∨ (Int32.toInt p1 = 2 ∧ 0 ≤ Int32.toInt p2 ∧ Int32.toInt p2 ≤ 9) ∨ (Int32.toInt p1 = 3 ∧ 0 ≤ Int32.toInt p2 ∧ Int32.toInt p2 ≤ 1))) ∨ Int32.toInt r_10 = 0) from (by omega))
    · refine dOk_eq (A := Int32.toInt p1) (B := 2) rfl (by decide) (fun c_13z c_13 => ?_) (fun c_14z c_14 => ?_)
      · refine dOk_V (ok_lies p2 0 9) (fun r_16 h_17 => ?_)
        replace h_17 : ((Int32.toInt r_16 = 1 ∧ (0 : Int) ≤ Int32.toInt p2 ∧ Int32.toInt p2 ≤ (9 : Int)) ∨ (Int32.toInt r_16 = 0 ∧ (Int32.toInt p2 < (0 : Int) ∨ (9 : Int) < Int32.toInt p2))) := h_17
        have i_18 := h_17
        refine dOk_G (dbl_ok (show Int32.toInt r_16 = 0 ∨ Int32.toInt r_16 = 1 by omega)) ?_
        exact dOk_some (show ((Int32.toInt r_16 = 1 ∧ ((Int32.toInt p1 = 0 ∧ 0 ≤ Int32.toInt p2 ∧ Int32.toInt p2 ≤ 999) ∨ (Int32.toInt p1 = 1 ∧ 0 ≤ Int32.toInt p2 ∧ Int32.toInt p2 ≤ 10) ∨ (Int32.toInt p1 = 2 ∧ 0 ≤ Int32.toInt p2 ∧ Int32.toInt p2 ≤ 9) ∨ (Int32.toInt p1 = 3 ∧ 0 ≤ Int32.toInt p2 ∧ Int32.toInt p2 ≤ 1))) ∨ Int32.toInt r_16 = 0) from (by omega))
      · refine dOk_eq (A := Int32.toInt p1) (B := 3) rfl (by decide) (fun c_19z c_19 => ?_) (fun c_20z c_20 => ?_)
        · refine dOk_V (ok_isBit p2) (fun r_22 h_23 => ?_)
          replace h_23 : ((Int32.toInt r_22 = 1 ∧ 0 ≤ Int32.toInt p2 ∧ Int32.toInt p2 ≤ 1) ∨ (Int32.toInt r_22 = 0 ∧ (Int32.toInt p2 < 0 ∨ 1 < Int32.toInt p2))) := h_23
          have i_24 := h_23
          refine dOk_G (dbl_ok (show Int32.toInt r_22 = 0 ∨ Int32.toInt r_22 = 1 by omega)) ?_
          exact dOk_some (show ((Int32.toInt r_22 = 1 ∧ ((Int32.toInt p1 = 0 ∧ 0 ≤ Int32.toInt p2 ∧ Int32.toInt p2 ≤ 999) ∨ (Int32.toInt p1 = 1 ∧ 0 ≤ Int32.toInt p2 ∧ Int32.toInt p2 ≤ 10) ∨ (Int32.toInt p1 = 2 ∧ 0 ≤ Int32.toInt p2 ∧ Int32.toInt p2 ≤ 9) ∨ (Int32.toInt p1 = 3 ∧ 0 ≤ Int32.toInt p2 ∧ Int32.toInt p2 ≤ 1))) ∨ Int32.toInt r_22 = 0) from (by omega))
        · exact dOk_some (show (((0 : Int) = 1 ∧ ((Int32.toInt p1 = 0 ∧ 0 ≤ Int32.toInt p2 ∧ Int32.toInt p2 ≤ 999) ∨ (Int32.toInt p1 = 1 ∧ 0 ≤ Int32.toInt p2 ∧ Int32.toInt p2 ≤ 10) ∨ (Int32.toInt p1 = 2 ∧ 0 ≤ Int32.toInt p2 ∧ Int32.toInt p2 ≤ 9) ∨ (Int32.toInt p1 = 3 ∧ 0 ≤ Int32.toInt p2 ∧ Int32.toInt p2 ≤ 1))) ∨ (0 : Int) = 0) from (by omega))

set_option maxHeartbeats 4000000 in
set_option maxRecDepth 100000 in
theorem ok_termAt (p1 : Int32) : dOk (zX10_termAt p1) (fun (o : Int32) => ((Int32.toInt p1 = 0 ∧ Int32.toInt o = 13) ∨ (Int32.toInt p1 = 1 ∧ Int32.toInt o = 26) ∨ (Int32.toInt p1 = 2 ∧ Int32.toInt o = 27) ∨ (¬ Int32.toInt p1 = 0 ∧ ¬ Int32.toInt p1 = 1 ∧ ¬ Int32.toInt p1 = 2 ∧ Int32.toInt o = 28))) := by
  unfold zX10_termAt
  refine dOk_eq (A := Int32.toInt p1) (B := 0) rfl (by decide) (fun c_1z c_1 => ?_) (fun c_2z c_2 => ?_)
  · unfold zX10_termAt_31
    exact dOk_some (show ((Int32.toInt p1 = 0 ∧ (13 : Int) = 13) ∨ (Int32.toInt p1 = 1 ∧ (13 : Int) = 26) ∨ (Int32.toInt p1 = 2 ∧ (13 : Int) = 27) ∨ (¬ Int32.toInt p1 = 0 ∧ ¬ Int32.toInt p1 = 1 ∧ ¬ Int32.toInt p1 = 2 ∧ (13 : Int) = 28)) from (by omega))
  · refine dOk_eq (A := Int32.toInt p1) (B := 1) rfl (by decide) (fun c_4z c_4 => ?_) (fun c_5z c_5 => ?_)
    · unfold zX10_termAt_31
      exact dOk_some (show ((Int32.toInt p1 = 0 ∧ (26 : Int) = 13) ∨ (Int32.toInt p1 = 1 ∧ (26 : Int) = 26) ∨ (Int32.toInt p1 = 2 ∧ (26 : Int) = 27) ∨ (¬ Int32.toInt p1 = 0 ∧ ¬ Int32.toInt p1 = 1 ∧ ¬ Int32.toInt p1 = 2 ∧ (26 : Int) = 28)) from (by omega))
    · refine dOk_eq (A := Int32.toInt p1) (B := 2) rfl (by decide) (fun c_7z c_7 => ?_) (fun c_8z c_8 => ?_)
      · unfold zX10_termAt_31
        exact dOk_some (show ((Int32.toInt p1 = 0 ∧ (27 : Int) = 13) ∨ (Int32.toInt p1 = 1 ∧ (27 : Int) = 26) ∨ (Int32.toInt p1 = 2 ∧ (27 : Int) = 27) ∨ (¬ Int32.toInt p1 = 0 ∧ ¬ Int32.toInt p1 = 1 ∧ ¬ Int32.toInt p1 = 2 ∧ (27 : Int) = 28)) from (by omega))
      · unfold zX10_termAt_31
        exact dOk_some (show ((Int32.toInt p1 = 0 ∧ (28 : Int) = 13) ∨ (Int32.toInt p1 = 1 ∧ (28 : Int) = 26) ∨ (Int32.toInt p1 = 2 ∧ (28 : Int) = 27) ∨ (¬ Int32.toInt p1 = 0 ∧ ¬ Int32.toInt p1 = 1 ∧ ¬ Int32.toInt p1 = 2 ∧ (28 : Int) = 28)) from (by omega))

set_option maxHeartbeats 4000000 in
set_option maxRecDepth 100000 in
theorem ok_terms (q : dS) (p1 : Int32) (p2 : Int32) (hT : TS q) : dOk (zX10_terms q p1 p2) (fun (o : Int32 × dS) => (TS o.2) ∧ (dFr [1, 2] [0, 32] q o.2) ∧ (Int32.toInt (o.2.1 2 31) = Int32.toInt (q.1 2 31)) ∧ (Int32.toInt (o.2.1 2 32) = Int32.toInt (q.1 2 32))) := by
  unfold zX10_terms
  refine dOk_V (ok_isTerm p1 p2) (fun r_1 h_2 => ?_)
  replace h_2 : ((Int32.toInt r_1 = 1 ∧ ((Int32.toInt p1 = 0 ∧ 0 ≤ Int32.toInt p2 ∧ Int32.toInt p2 ≤ 999) ∨ (Int32.toInt p1 = 1 ∧ 0 ≤ Int32.toInt p2 ∧ Int32.toInt p2 ≤ 10) ∨ (Int32.toInt p1 = 2 ∧ 0 ≤ Int32.toInt p2 ∧ Int32.toInt p2 ≤ 9) ∨ (Int32.toInt p1 = 3 ∧ 0 ≤ Int32.toInt p2 ∧ Int32.toInt p2 ≤ 1))) ∨ Int32.toInt r_1 = 0) := h_2
  have i_3 := h_2
  refine dOk_eq (A := Int32.toInt r_1) (B := 0) rfl (by decide) (fun c_4z c_4 => ?_) (fun c_5z c_5 => ?_)
  · refine dOk_B (ok_refuses q (-1) hT (show (-6) ≤ (-1 : Int) by omega) (show (-1 : Int) ≤ 0 by omega)) (fun r_7 q_8 h_9 => ?_)
    replace h_9 : (TS q_8) ∧ (dFr [1] [0] q q_8) ∧ (Int32.toInt r_7 = (-1 : Int)) := h_9
    obtain ⟨i_10, i_11, i_12⟩ := h_9
    have hFq_8 : dFr [1, 2] [0, 32] q q_8 := (dFr.rf (q := q)).t i_11 (by decide) (by decide)
    have f_13 : 0 ≤ Int32.toInt (q_8.1 2 31) ∧ Int32.toInt (q_8.1 2 31) ≤ 6 := i_10.1 2 31
    have f_14 : 0 ≤ Int32.toInt (q.1 2 31) ∧ Int32.toInt (q.1 2 31) ≤ 6 := hT.1 2 31
    have w_15 : Int32.toInt (q_8.1 2 31) = Int32.toInt (q.1 2 31) := by rw [i_11.1 2 (by decide) (by decide)]
    have f_16 : -1 ≤ Int32.toInt (q_8.1 2 32) ∧ Int32.toInt (q_8.1 2 32) ≤ 5 := i_10.1 2 32
    have k_17 : Int32.toInt (q_8.1 2 32) < Int32.toInt (q_8.1 2 31) := i_10.2.1.1
    have f_18 : -1 ≤ Int32.toInt (q.1 2 32) ∧ Int32.toInt (q.1 2 32) ≤ 5 := hT.1 2 32
    have k_19 : Int32.toInt (q.1 2 32) < Int32.toInt (q.1 2 31) := hT.2.1.1
    have w_20 : Int32.toInt (q_8.1 2 32) = Int32.toInt (q.1 2 32) := by rw [i_11.1 2 (by decide) (by decide)]
    exact dOk_some (show (TS q_8) ∧ (dFr [1, 2] [0, 32] q q_8) ∧ (Int32.toInt (q_8.1 2 31) = Int32.toInt (q.1 2 31)) ∧ (Int32.toInt (q_8.1 2 32) = Int32.toInt (q.1 2 32)) from ⟨i_10, hFq_8, by omega, by omega⟩)
  · refine dOk_V (ok_termAt p1) (fun r_21 h_22 => ?_)
    replace h_22 : ((Int32.toInt p1 = 0 ∧ Int32.toInt r_21 = 13) ∨ (Int32.toInt p1 = 1 ∧ Int32.toInt r_21 = 26) ∨ (Int32.toInt p1 = 2 ∧ Int32.toInt r_21 = 27) ∨ (¬ Int32.toInt p1 = 0 ∧ ¬ Int32.toInt p1 = 1 ∧ ¬ Int32.toInt p1 = 2 ∧ Int32.toInt r_21 = 28)) := h_22
    have i_23 := h_22
    refine dOk_G (dg_ok (show 0 ≤ Int32.toInt r_21 by omega) (show Int32.toInt r_21 < ((5640 : Nat) : Int) by omega)) ?_
    have n_24 : ((Int32.toNatClampNeg r_21 : Nat) : Int) = Int32.toInt r_21 := cl_eq (by omega)
    refine dOk_L (fun v_25 ev_25 => ?_)
    try have g_26 : klo (Int32.toNatClampNeg r_21) ≤ Int32.toInt v_25 ∧ Int32.toInt v_25 ≤ khi (Int32.toNatClampNeg r_21) := by rw [ev_25]; exact te_k hT _
    try have f_27 : 0 ≤ Int32.toInt v_25 ∧ Int32.toInt v_25 ≤ 5 := by rw [ev_25]; exact te_2r hT (by omega) (by omega)
    try have f_28 : 0 ≤ Int32.toInt v_25 ∧ Int32.toInt v_25 ≤ 1 := by rw [ev_25]; exact te_2h hT (by omega) (by omega)
    try have f_29 : 0 ≤ Int32.toInt v_25 ∧ Int32.toInt v_25 ≤ 5 := by rw [ev_25]; exact te_2s hT (by omega) (by omega)
    try have f_30 : 0 ≤ Int32.toInt v_25 ∧ Int32.toInt v_25 ≤ 400 := by rw [ev_25]; exact te_2z hT (by omega) (by omega)
    refine dOk_V (ok_termAt p1) (fun r_31 h_32 => ?_)
    replace h_32 : ((Int32.toInt p1 = 0 ∧ Int32.toInt r_31 = 13) ∨ (Int32.toInt p1 = 1 ∧ Int32.toInt r_31 = 26) ∨ (Int32.toInt p1 = 2 ∧ Int32.toInt r_31 = 27) ∨ (¬ Int32.toInt p1 = 0 ∧ ¬ Int32.toInt p1 = 1 ∧ ¬ Int32.toInt p1 = 2 ∧ Int32.toInt r_31 = 28)) := h_32
    have i_33 := h_32
    refine dOk_G (dg_ok (show 0 ≤ Int32.toInt r_31 by omega) (show Int32.toInt r_31 < ((5640 : Nat) : Int) by omega)) ?_
    have n_34 : ((Int32.toNatClampNeg r_31 : Nat) : Int) = Int32.toInt r_31 := cl_eq (by omega)
    refine dOk_L (fun q_35 eq_35 => ?_)
    have hTq_35 : TS q_35 := by rw [eq_35]; exact ts_set2 hT (by omega) (show klo (Int32.toNatClampNeg r_31) ≤ Int32.toInt p2 by unfold klo; omega) (show Int32.toInt p2 ≤ khi (Int32.toNatClampNeg r_31) by unfold khi; omega)
    have hFq_35 : dFr [1, 2] [0, 32] q q_35 := by rw [eq_35]; exact (dFr.rf (q := q)).i (by decide) (by decide)
    refine dOk_B (ok_settled q_35 v_25 hTq_35) (fun r_36 q_37 h_38 => ?_)
    replace h_38 : (TS q_37) ∧ (dFr [] [0, 32] q_35 q_37) ∧ (Int32.toInt r_36 = Int32.toInt v_25) := h_38
    obtain ⟨i_39, i_40, i_41⟩ := h_38
    have hFq_37 : dFr [1, 2] [0, 32] q q_37 := hFq_35.t i_40 (by decide) (by decide)
    have f_42 : 0 ≤ Int32.toInt (q_37.1 2 31) ∧ Int32.toInt (q_37.1 2 31) ≤ 6 := i_39.1 2 31
    have f_43 : 0 ≤ Int32.toInt (q_35.1 2 31) ∧ Int32.toInt (q_35.1 2 31) ≤ 6 := hTq_35.1 2 31
    have f_44 : 0 ≤ Int32.toInt (q.1 2 31) ∧ Int32.toInt (q.1 2 31) ≤ 6 := hT.1 2 31
    try have w_45 : Int32.toInt (q_35.1 2 31) = Int32.toInt (q.1 2 31) := by rw [eq_35, dui_n (by omega)]
    have w_46 : Int32.toInt (q_37.1 2 31) = Int32.toInt (q_35.1 2 31) := by rw [i_40.1 2 (by decide) (by decide)]
    have f_47 : -1 ≤ Int32.toInt (q_37.1 2 32) ∧ Int32.toInt (q_37.1 2 32) ≤ 5 := i_39.1 2 32
    have k_48 : Int32.toInt (q_37.1 2 32) < Int32.toInt (q_37.1 2 31) := i_39.2.1.1
    have f_49 : -1 ≤ Int32.toInt (q_35.1 2 32) ∧ Int32.toInt (q_35.1 2 32) ≤ 5 := hTq_35.1 2 32
    have k_50 : Int32.toInt (q_35.1 2 32) < Int32.toInt (q_35.1 2 31) := hTq_35.2.1.1
    have f_51 : -1 ≤ Int32.toInt (q.1 2 32) ∧ Int32.toInt (q.1 2 32) ≤ 5 := hT.1 2 32
    have k_52 : Int32.toInt (q.1 2 32) < Int32.toInt (q.1 2 31) := hT.2.1.1
    try have w_53 : Int32.toInt (q_35.1 2 32) = Int32.toInt (q.1 2 32) := by rw [eq_35, dui_n (by omega)]
    have w_54 : Int32.toInt (q_37.1 2 32) = Int32.toInt (q_35.1 2 32) := by rw [i_40.1 2 (by decide) (by decide)]
    exact dOk_some (show (TS q_37) ∧ (dFr [1, 2] [0, 32] q q_37) ∧ (Int32.toInt (q_37.1 2 31) = Int32.toInt (q.1 2 31)) ∧ (Int32.toInt (q_37.1 2 32) = Int32.toInt (q.1 2 32)) from ⟨i_39, hFq_37, by omega, by omega⟩)
end
section
set_option maxHeartbeats 4000000 in
set_option maxRecDepth 100000 in
theorem ok_row (q : dS) (hT : TS q) : dOk (zX10_row q) (fun (o : Int32 × dS) => (TS o.2) ∧ (dFr [1, 2] [0, 6, 13, 32] q o.2) ∧ (Int32.toInt (o.2.1 0 13) = 0) ∧ (Int32.toInt (o.2.1 2 31) = Int32.toInt (q.1 2 31)) ∧ (Int32.toInt (o.2.1 2 32) = Int32.toInt (q.1 2 32))) := by
  unfold zX10_row
  refine dOk_L (fun q_1 eq_1 => ?_)
  have hTq_1 : TS q_1 := by rw [eq_1]; exact ts_f hT (show 0 ≤ (0 : Int) by omega) (show (0 : Int) ≤ 400 by omega)
  have hFq_1 : dFr [1, 2] [0, 6, 13, 32] q q_1 := by rw [eq_1]; exact (dFr.rf (q := q)).f (by decide)
  have f_2 : 0 ≤ Int32.toInt (q.1 0 13) ∧ Int32.toInt (q.1 0 13) ≤ 400 := hT.1 0 13
  refine dOk_eq (A := Int32.toInt (q.1 0 13)) (B := 0) rfl (by decide) (fun c_3z c_3 => ?_) (fun c_4z c_4 => ?_)
  · refine dOk_B (ok_refuses q_1 (-6) hTq_1 (show (-6) ≤ (-6 : Int) by omega) (show (-6 : Int) ≤ 0 by omega)) (fun r_6 q_7 h_8 => ?_)
    replace h_8 : (TS q_7) ∧ (dFr [1] [0] q_1 q_7) ∧ (Int32.toInt r_6 = (-6 : Int)) := h_8
    obtain ⟨i_9, i_10, i_11⟩ := h_8
    have hFq_7 : dFr [1, 2] [0, 6, 13, 32] q q_7 := hFq_1.t i_10 (by decide) (by decide)
    have f_12 : 0 ≤ Int32.toInt (q_7.1 0 13) ∧ Int32.toInt (q_7.1 0 13) ≤ 400 := i_9.1 0 13
    have f_13 : 0 ≤ Int32.toInt (q_1.1 0 13) ∧ Int32.toInt (q_1.1 0 13) ≤ 400 := hTq_1.1 0 13
    have w_14 : Int32.toInt (q_1.1 0 13) = (0 : Int) := by rw [eq_1, dui_e]; decide
    have w_15 : Int32.toInt (q_7.1 0 13) = Int32.toInt (q_1.1 0 13) := by rw [i_10.2 13 (by decide)]
    have f_16 : 0 ≤ Int32.toInt (q_7.1 2 31) ∧ Int32.toInt (q_7.1 2 31) ≤ 6 := i_9.1 2 31
    have f_17 : 0 ≤ Int32.toInt (q_1.1 2 31) ∧ Int32.toInt (q_1.1 2 31) ≤ 6 := hTq_1.1 2 31
    have f_18 : 0 ≤ Int32.toInt (q.1 2 31) ∧ Int32.toInt (q.1 2 31) ≤ 6 := hT.1 2 31
    have w_19 : Int32.toInt (q_1.1 2 31) = Int32.toInt (q.1 2 31) := by rw [eq_1, dui_o (by decide)]
    have w_20 : Int32.toInt (q_7.1 2 31) = Int32.toInt (q_1.1 2 31) := by rw [i_10.1 2 (by decide) (by decide)]
    have f_21 : -1 ≤ Int32.toInt (q_7.1 2 32) ∧ Int32.toInt (q_7.1 2 32) ≤ 5 := i_9.1 2 32
    have k_22 : Int32.toInt (q_7.1 2 32) < Int32.toInt (q_7.1 2 31) := i_9.2.1.1
    have f_23 : -1 ≤ Int32.toInt (q_1.1 2 32) ∧ Int32.toInt (q_1.1 2 32) ≤ 5 := hTq_1.1 2 32
    have k_24 : Int32.toInt (q_1.1 2 32) < Int32.toInt (q_1.1 2 31) := hTq_1.2.1.1
    have f_25 : -1 ≤ Int32.toInt (q.1 2 32) ∧ Int32.toInt (q.1 2 32) ≤ 5 := hT.1 2 32
    have k_26 : Int32.toInt (q.1 2 32) < Int32.toInt (q.1 2 31) := hT.2.1.1
    have w_27 : Int32.toInt (q_1.1 2 32) = Int32.toInt (q.1 2 32) := by rw [eq_1, dui_o (by decide)]
    have w_28 : Int32.toInt (q_7.1 2 32) = Int32.toInt (q_1.1 2 32) := by rw [i_10.1 2 (by decide) (by decide)]
    exact dOk_some (show (TS q_7) ∧ (dFr [1, 2] [0, 6, 13, 32] q q_7) ∧ (Int32.toInt (q_7.1 0 13) = 0) ∧ (Int32.toInt (q_7.1 2 31) = Int32.toInt (q.1 2 31)) ∧ (Int32.toInt (q_7.1 2 32) = Int32.toInt (q.1 2 32)) from ⟨i_9, hFq_7, by omega, by omega, by omega⟩)
  · refine dOk_L (fun q_29 eq_29 => ?_)
    try have t_30 : Int32.toInt (q.1 0 13 - q.1 0 13 / 2 * 2) = Int32.toInt (q.1 0 13) % 2 := ti_rem rfl (by decide) (by omega) (by omega)
    have hTq_29 : TS q_29 := by rw [eq_29]; exact ts_f hTq_1 (ti_rg _).1 (ti_rg _).2
    have hFq_29 : dFr [1, 2] [0, 6, 13, 32] q q_29 := by rw [eq_29]; exact hFq_1.f (by decide)
    unfold zX10_row_32
    refine dFix_ok (fun (a : dS × Int32 × Int32 × Int32) => (TS a.1) ∧ (dFr [2] [6] q_29 a.1) ∧ (a.2.1 = (q.1 0 13)) ∧ (0 ≤ Int32.toInt a.2.2.2) ∧ (Int32.toInt a.2.2.2 ≤ 402) ∧ (Int32.toInt (a.1.1 2 31) = Int32.toInt (q_29.1 2 31)) ∧ (Int32.toInt (a.1.1 2 32) = Int32.toInt (q_29.1 2 32))) (fun (a : dS × Int32 × Int32 × Int32) => (402 - Int32.toInt a.2.2.2).toNat) ?_ _ ?_ _ (dF_gt ?_)
    · intro a ha k_32 hk_31
      obtain ⟨q_33, x1_34, x2_35, x3_36⟩ := a
      replace ha : (TS q_33) ∧ (dFr [2] [6] q_29 q_33) ∧ (x1_34 = (q.1 0 13)) ∧ (0 ≤ Int32.toInt x3_36) ∧ (Int32.toInt x3_36 ≤ 402) ∧ (Int32.toInt (q_33.1 2 31) = Int32.toInt (q_29.1 2 31)) ∧ (Int32.toInt (q_33.1 2 32) = Int32.toInt (q_29.1 2 32)) := ha
      obtain ⟨a_37, a_38, a_39, a_40, a_41, a_42, a_43⟩ := ha
      show dOk (zX10_row_32b  (fun q x1 x2 x3 => k_32 (q, x1, x2, x3)) q_33 x1_34 x2_35 x3_36) _
      unfold zX10_row_32b
      have hFq_33 : dFr [1, 2] [0, 6, 13, 32] q q_33 := hFq_29.t a_38 (by decide) (by decide)
      subst x1_34
      have f_44 : 0 ≤ Int32.toInt (q_33.1 2 31) ∧ Int32.toInt (q_33.1 2 31) ≤ 6 := a_37.1 2 31
      have f_45 : 0 ≤ Int32.toInt (q_29.1 2 31) ∧ Int32.toInt (q_29.1 2 31) ≤ 6 := hTq_29.1 2 31
      have f_46 : 0 ≤ Int32.toInt (q_1.1 2 31) ∧ Int32.toInt (q_1.1 2 31) ≤ 6 := hTq_1.1 2 31
      have f_47 : 0 ≤ Int32.toInt (q.1 2 31) ∧ Int32.toInt (q.1 2 31) ≤ 6 := hT.1 2 31
      have w_48 : Int32.toInt (q_1.1 2 31) = Int32.toInt (q.1 2 31) := by rw [eq_1, dui_o (by decide)]
      have w_49 : Int32.toInt (q_29.1 2 31) = Int32.toInt (q_1.1 2 31) := by rw [eq_29, dui_o (by decide)]
      have f_50 : -1 ≤ Int32.toInt (q_33.1 2 32) ∧ Int32.toInt (q_33.1 2 32) ≤ 5 := a_37.1 2 32
      have k_51 : Int32.toInt (q_33.1 2 32) < Int32.toInt (q_33.1 2 31) := a_37.2.1.1
      have f_52 : -1 ≤ Int32.toInt (q_29.1 2 32) ∧ Int32.toInt (q_29.1 2 32) ≤ 5 := hTq_29.1 2 32
      have k_53 : Int32.toInt (q_29.1 2 32) < Int32.toInt (q_29.1 2 31) := hTq_29.2.1.1
      have f_54 : -1 ≤ Int32.toInt (q_1.1 2 32) ∧ Int32.toInt (q_1.1 2 32) ≤ 5 := hTq_1.1 2 32
      have k_55 : Int32.toInt (q_1.1 2 32) < Int32.toInt (q_1.1 2 31) := hTq_1.2.1.1
      have f_56 : -1 ≤ Int32.toInt (q.1 2 32) ∧ Int32.toInt (q.1 2 32) ≤ 5 := hT.1 2 32
      have k_57 : Int32.toInt (q.1 2 32) < Int32.toInt (q.1 2 31) := hT.2.1.1
      have w_58 : Int32.toInt (q_1.1 2 32) = Int32.toInt (q.1 2 32) := by rw [eq_1, dui_o (by decide)]
      have w_59 : Int32.toInt (q_29.1 2 32) = Int32.toInt (q_1.1 2 32) := by rw [eq_29, dui_o (by decide)]
      try have t_60 : Int32.toInt (x3_36 + 2) = Int32.toInt x3_36 + 2 := ti_add rfl (by decide) (by omega) (by omega)
      refine dOk_lt (A := Int32.toInt (q.1 0 13)) (B := Int32.toInt (x3_36 + 2)) rfl rfl (fun c_61 => ?_) (fun c_62 => ?_)
      · refine dOk_B (ok_settled q_33 x2_35 a_37) (fun r_63 q_64 h_65 => ?_)
        replace h_65 : (TS q_64) ∧ (dFr [] [0, 32] q_33 q_64) ∧ (Int32.toInt r_63 = Int32.toInt x2_35) := h_65
        obtain ⟨i_66, i_67, i_68⟩ := h_65
        have hFq_64 : dFr [1, 2] [0, 6, 13, 32] q q_64 := hFq_33.t i_67 (by decide) (by decide)
        have f_69 : 0 ≤ Int32.toInt (q_64.1 0 13) ∧ Int32.toInt (q_64.1 0 13) ≤ 400 := i_66.1 0 13
        have f_70 : 0 ≤ Int32.toInt (q_33.1 0 13) ∧ Int32.toInt (q_33.1 0 13) ≤ 400 := a_37.1 0 13
        have f_71 : 0 ≤ Int32.toInt (q_29.1 0 13) ∧ Int32.toInt (q_29.1 0 13) ≤ 400 := hTq_29.1 0 13
        have f_72 : 0 ≤ Int32.toInt (q_1.1 0 13) ∧ Int32.toInt (q_1.1 0 13) ≤ 400 := hTq_1.1 0 13
        have w_73 : Int32.toInt (q_1.1 0 13) = (0 : Int) := by rw [eq_1, dui_e]; decide
        have w_74 : Int32.toInt (q_29.1 0 13) = Int32.toInt (q_1.1 0 13) := by rw [eq_29, dui_n (by decide)]
        have w_75 : Int32.toInt (q_33.1 0 13) = Int32.toInt (q_29.1 0 13) := by rw [a_38.2 13 (by decide)]
        have w_76 : Int32.toInt (q_64.1 0 13) = Int32.toInt (q_33.1 0 13) := by rw [i_67.2 13 (by decide)]
        have f_77 : 0 ≤ Int32.toInt (q_64.1 2 31) ∧ Int32.toInt (q_64.1 2 31) ≤ 6 := i_66.1 2 31
        have w_78 : Int32.toInt (q_64.1 2 31) = Int32.toInt (q_33.1 2 31) := by rw [i_67.1 2 (by decide) (by decide)]
        have f_79 : -1 ≤ Int32.toInt (q_64.1 2 32) ∧ Int32.toInt (q_64.1 2 32) ≤ 5 := i_66.1 2 32
        have k_80 : Int32.toInt (q_64.1 2 32) < Int32.toInt (q_64.1 2 31) := i_66.2.1.1
        have w_81 : Int32.toInt (q_64.1 2 32) = Int32.toInt (q_33.1 2 32) := by rw [i_67.1 2 (by decide) (by decide)]
        exact dOk_some (show (TS q_64) ∧ (dFr [1, 2] [0, 6, 13, 32] q q_64) ∧ (Int32.toInt (q_64.1 0 13) = 0) ∧ (Int32.toInt (q_64.1 2 31) = Int32.toInt (q.1 2 31)) ∧ (Int32.toInt (q_64.1 2 32) = Int32.toInt (q.1 2 32)) from ⟨i_66, hFq_64, by omega, by omega, by omega⟩)
      · refine dOk_B (ok_size q_33 a_37) (fun r_82 q_83 h_84 => ?_)
        replace h_84 : (q_83 = q_33) ∧ (Int32.toInt r_82 = Int32.toInt (q_33.1 2 29)) ∧ (0 ≤ Int32.toInt r_82 ∧ Int32.toInt r_82 ≤ 6) := h_84
        obtain ⟨i_85, i_86, i_87⟩ := h_84
        subst q_83
        have f_88 : 0 ≤ Int32.toInt (q_33.1 2 29) ∧ Int32.toInt (q_33.1 2 29) ≤ 6 := a_37.1 2 29
        refine dOk_le (A := 6) (B := Int32.toInt r_82) (by decide) rfl (fun c_89 => ?_) (fun c_90 => ?_)
        · unfold zX10_row_92
          unfold zX10_row_93
          refine dOk_eq (A := 0) (B := 0) (by decide) (by decide) (fun c_91z c_91 => ?_) (fun c_92z c_92 => ?_)
          · unfold zX10_row_118
            refine dOk_eq (A := 0) (B := 0) (by decide) (by decide) (fun c_94z c_94 => ?_) (fun c_95z c_95 => ?_)
            · unfold zX10_row_129
              refine dOk_eq (A := 0) (B := 0) (by decide) (by decide) (fun c_97z c_97 => ?_) (fun c_98z c_98 => ?_)
              · unfold zX10_row_146
                refine dOk_L (fun q_100 eq_100 => ?_)
                try have t_101 : Int32.toInt (q_33.1 0 6 + 1) = Int32.toInt (q_33.1 0 6) + 1 := ti_add rfl (by decide) (by omega) (by omega)
                have hTq_100 : TS q_100 := by rw [eq_100]; exact ts_f a_37 (ti_rg _).1 (ti_rg _).2
                have hFq_100 : dFr [1, 2] [0, 6, 13, 32] q q_100 := by rw [eq_100]; exact hFq_33.f (by decide)
                try have t_102 : Int32.toInt (x2_35 + 0) = Int32.toInt x2_35 + 0 := ti_add rfl (by decide) (by omega) (by omega)
                have f_103 : 0 ≤ Int32.toInt (q_100.1 2 31) ∧ Int32.toInt (q_100.1 2 31) ≤ 6 := hTq_100.1 2 31
                have w_104 : Int32.toInt (q_100.1 2 31) = Int32.toInt (q_33.1 2 31) := by rw [eq_100, dui_o (by decide)]
                have f_105 : -1 ≤ Int32.toInt (q_100.1 2 32) ∧ Int32.toInt (q_100.1 2 32) ≤ 5 := hTq_100.1 2 32
                have k_106 : Int32.toInt (q_100.1 2 32) < Int32.toInt (q_100.1 2 31) := hTq_100.2.1.1
                have w_107 : Int32.toInt (q_100.1 2 32) = Int32.toInt (q_33.1 2 32) := by rw [eq_100, dui_o (by decide)]
                exact hk_31 (q_100, (q.1 0 13), (x2_35 + 0), (x3_36 + 2)) (show (TS q_100) ∧ (dFr [2] [6] q_29 q_100) ∧ ((q.1 0 13) = (q.1 0 13)) ∧ (0 ≤ Int32.toInt (x3_36 + 2)) ∧ (Int32.toInt (x3_36 + 2) ≤ 402) ∧ (Int32.toInt (q_100.1 2 31) = Int32.toInt (q_29.1 2 31)) ∧ (Int32.toInt (q_100.1 2 32) = Int32.toInt (q_29.1 2 32)) from ⟨hTq_100, (by rw [eq_100]; exact (((dFr.rf : dFr [2] [6] q_29 q_29).t a_38 (by decide) (by decide)) : dFr [2] [6] q_29 q_33).f (by decide)), rfl, by omega, by omega, by omega, by omega⟩) (show (402 - Int32.toInt (x3_36 + 2)).toNat < (402 - Int32.toInt x3_36).toNat by omega)
              · unfold zX10_row_146
                refine dOk_L (fun q_108 eq_108 => ?_)
                try have t_109 : Int32.toInt (q_33.1 0 6 + 0) = Int32.toInt (q_33.1 0 6) + 0 := ti_add rfl (by decide) (by omega) (by omega)
                have hTq_108 : TS q_108 := by rw [eq_108]; exact ts_f a_37 (ti_rg _).1 (ti_rg _).2
                have hFq_108 : dFr [1, 2] [0, 6, 13, 32] q q_108 := by rw [eq_108]; exact hFq_33.f (by decide)
                try have t_110 : Int32.toInt (x2_35 + 0) = Int32.toInt x2_35 + 0 := ti_add rfl (by decide) (by omega) (by omega)
                have f_111 : 0 ≤ Int32.toInt (q_108.1 2 31) ∧ Int32.toInt (q_108.1 2 31) ≤ 6 := hTq_108.1 2 31
                have w_112 : Int32.toInt (q_108.1 2 31) = Int32.toInt (q_33.1 2 31) := by rw [eq_108, dui_o (by decide)]
                have f_113 : -1 ≤ Int32.toInt (q_108.1 2 32) ∧ Int32.toInt (q_108.1 2 32) ≤ 5 := hTq_108.1 2 32
                have k_114 : Int32.toInt (q_108.1 2 32) < Int32.toInt (q_108.1 2 31) := hTq_108.2.1.1
                have w_115 : Int32.toInt (q_108.1 2 32) = Int32.toInt (q_33.1 2 32) := by rw [eq_108, dui_o (by decide)]
                exact hk_31 (q_108, (q.1 0 13), (x2_35 + 0), (x3_36 + 2)) (show (TS q_108) ∧ (dFr [2] [6] q_29 q_108) ∧ ((q.1 0 13) = (q.1 0 13)) ∧ (0 ≤ Int32.toInt (x3_36 + 2)) ∧ (Int32.toInt (x3_36 + 2) ≤ 402) ∧ (Int32.toInt (q_108.1 2 31) = Int32.toInt (q_29.1 2 31)) ∧ (Int32.toInt (q_108.1 2 32) = Int32.toInt (q_29.1 2 32)) from ⟨hTq_108, (by rw [eq_108]; exact (((dFr.rf : dFr [2] [6] q_29 q_29).t a_38 (by decide) (by decide)) : dFr [2] [6] q_29 q_33).f (by decide)), rfl, by omega, by omega, by omega, by omega⟩) (show (402 - Int32.toInt (x3_36 + 2)).toNat < (402 - Int32.toInt x3_36).toNat by omega)
            · unfold zX10_row_129
              refine dOk_eq (A := 0) (B := 0) (by decide) (by decide) (fun c_116z c_116 => ?_) (fun c_117z c_117 => ?_)
              · unfold zX10_row_146
                refine dOk_L (fun q_119 eq_119 => ?_)
                try have t_120 : Int32.toInt (q_33.1 0 6 + 1) = Int32.toInt (q_33.1 0 6) + 1 := ti_add rfl (by decide) (by omega) (by omega)
                have hTq_119 : TS q_119 := by rw [eq_119]; exact ts_f a_37 (ti_rg _).1 (ti_rg _).2
                have hFq_119 : dFr [1, 2] [0, 6, 13, 32] q q_119 := by rw [eq_119]; exact hFq_33.f (by decide)
                try have t_121 : Int32.toInt (x2_35 + 1) = Int32.toInt x2_35 + 1 := ti_add rfl (by decide) (by omega) (by omega)
                have f_122 : 0 ≤ Int32.toInt (q_119.1 2 31) ∧ Int32.toInt (q_119.1 2 31) ≤ 6 := hTq_119.1 2 31
                have w_123 : Int32.toInt (q_119.1 2 31) = Int32.toInt (q_33.1 2 31) := by rw [eq_119, dui_o (by decide)]
                have f_124 : -1 ≤ Int32.toInt (q_119.1 2 32) ∧ Int32.toInt (q_119.1 2 32) ≤ 5 := hTq_119.1 2 32
                have k_125 : Int32.toInt (q_119.1 2 32) < Int32.toInt (q_119.1 2 31) := hTq_119.2.1.1
                have w_126 : Int32.toInt (q_119.1 2 32) = Int32.toInt (q_33.1 2 32) := by rw [eq_119, dui_o (by decide)]
                exact hk_31 (q_119, (q.1 0 13), (x2_35 + 1), (x3_36 + 2)) (show (TS q_119) ∧ (dFr [2] [6] q_29 q_119) ∧ ((q.1 0 13) = (q.1 0 13)) ∧ (0 ≤ Int32.toInt (x3_36 + 2)) ∧ (Int32.toInt (x3_36 + 2) ≤ 402) ∧ (Int32.toInt (q_119.1 2 31) = Int32.toInt (q_29.1 2 31)) ∧ (Int32.toInt (q_119.1 2 32) = Int32.toInt (q_29.1 2 32)) from ⟨hTq_119, (by rw [eq_119]; exact (((dFr.rf : dFr [2] [6] q_29 q_29).t a_38 (by decide) (by decide)) : dFr [2] [6] q_29 q_33).f (by decide)), rfl, by omega, by omega, by omega, by omega⟩) (show (402 - Int32.toInt (x3_36 + 2)).toNat < (402 - Int32.toInt x3_36).toNat by omega)
              · unfold zX10_row_146
                refine dOk_L (fun q_127 eq_127 => ?_)
                try have t_128 : Int32.toInt (q_33.1 0 6 + 0) = Int32.toInt (q_33.1 0 6) + 0 := ti_add rfl (by decide) (by omega) (by omega)
                have hTq_127 : TS q_127 := by rw [eq_127]; exact ts_f a_37 (ti_rg _).1 (ti_rg _).2
                have hFq_127 : dFr [1, 2] [0, 6, 13, 32] q q_127 := by rw [eq_127]; exact hFq_33.f (by decide)
                try have t_129 : Int32.toInt (x2_35 + 1) = Int32.toInt x2_35 + 1 := ti_add rfl (by decide) (by omega) (by omega)
                have f_130 : 0 ≤ Int32.toInt (q_127.1 2 31) ∧ Int32.toInt (q_127.1 2 31) ≤ 6 := hTq_127.1 2 31
                have w_131 : Int32.toInt (q_127.1 2 31) = Int32.toInt (q_33.1 2 31) := by rw [eq_127, dui_o (by decide)]
                have f_132 : -1 ≤ Int32.toInt (q_127.1 2 32) ∧ Int32.toInt (q_127.1 2 32) ≤ 5 := hTq_127.1 2 32
                have k_133 : Int32.toInt (q_127.1 2 32) < Int32.toInt (q_127.1 2 31) := hTq_127.2.1.1
                have w_134 : Int32.toInt (q_127.1 2 32) = Int32.toInt (q_33.1 2 32) := by rw [eq_127, dui_o (by decide)]
                exact hk_31 (q_127, (q.1 0 13), (x2_35 + 1), (x3_36 + 2)) (show (TS q_127) ∧ (dFr [2] [6] q_29 q_127) ∧ ((q.1 0 13) = (q.1 0 13)) ∧ (0 ≤ Int32.toInt (x3_36 + 2)) ∧ (Int32.toInt (x3_36 + 2) ≤ 402) ∧ (Int32.toInt (q_127.1 2 31) = Int32.toInt (q_29.1 2 31)) ∧ (Int32.toInt (q_127.1 2 32) = Int32.toInt (q_29.1 2 32)) from ⟨hTq_127, (by rw [eq_127]; exact (((dFr.rf : dFr [2] [6] q_29 q_29).t a_38 (by decide) (by decide)) : dFr [2] [6] q_29 q_33).f (by decide)), rfl, by omega, by omega, by omega, by omega⟩) (show (402 - Int32.toInt (x3_36 + 2)).toNat < (402 - Int32.toInt x3_36).toNat by omega)
          · refine dOk_G (dg_ok (show 0 ≤ Int32.toInt x3_36 by omega) (show Int32.toInt x3_36 < ((400 : Nat) : Int) by omega)) ?_
            have n_135 : ((Int32.toNatClampNeg x3_36 : Nat) : Int) = Int32.toInt x3_36 := cl_eq (by omega)
            refine dOk_L (fun v_136 ev_136 => ?_)
            try have t_137 : Int32.toInt (x3_36 + 1) = Int32.toInt x3_36 + 1 := ti_add rfl (by decide) (by omega) (by omega)
            refine dOk_G (dg_ok (show 0 ≤ Int32.toInt (x3_36 + 1) by omega) (show Int32.toInt (x3_36 + 1) < ((400 : Nat) : Int) by omega)) ?_
            have n_138 : ((Int32.toNatClampNeg (x3_36 + 1) : Nat) : Int) = Int32.toInt (x3_36 + 1) := cl_eq (by omega)
            refine dOk_L (fun v_139 ev_139 => ?_)
            refine dOk_V (ok_adds q_33 v_136 v_139 a_37 (show Int32.toInt (q_33.1 2 29) < 6 by omega) (show 0 ≤ Int32.toInt v_136 ∧ Int32.toInt v_136 ≤ 5 by omega) (show 0 ≤ Int32.toInt v_139 ∧ Int32.toInt v_139 ≤ 1 by omega)) (fun q_140 h_141 => ?_)
            replace h_141 : (TS q_140) ∧ (dFr [2] [] q_33 q_140) ∧ (Int32.toInt (q_140.1 2 29) = Int32.toInt (q_33.1 2 29) + 1) ∧ (Int32.toInt (q_140.1 2 31) = Int32.toInt (q_33.1 2 31)) ∧ (Int32.toInt (q_140.1 2 32) = Int32.toInt (q_33.1 2 32)) := h_141
            obtain ⟨i_142, i_143, i_144, i_145, i_146⟩ := h_141
            have hFq_140 : dFr [1, 2] [0, 6, 13, 32] q q_140 := hFq_33.t i_143 (by decide) (by decide)
            have f_147 : 0 ≤ Int32.toInt (q_140.1 2 29) ∧ Int32.toInt (q_140.1 2 29) ≤ 6 := i_142.1 2 29
            have f_148 : 0 ≤ Int32.toInt (q_140.1 2 31) ∧ Int32.toInt (q_140.1 2 31) ≤ 6 := i_142.1 2 31
            have f_149 : -1 ≤ Int32.toInt (q_140.1 2 32) ∧ Int32.toInt (q_140.1 2 32) ≤ 5 := i_142.1 2 32
            have k_150 : Int32.toInt (q_140.1 2 32) < Int32.toInt (q_140.1 2 31) := i_142.2.1.1
            unfold zX10_row_118
            refine dOk_eq (A := 0) (B := 0) (by decide) (by decide) (fun c_151z c_151 => ?_) (fun c_152z c_152 => ?_)
            · unfold zX10_row_129
              refine dOk_eq (A := 0) (B := 0) (by decide) (by decide) (fun c_154z c_154 => ?_) (fun c_155z c_155 => ?_)
              · unfold zX10_row_146
                refine dOk_L (fun q_157 eq_157 => ?_)
                have w_158 : Int32.toInt (q_140.1 0 6) = Int32.toInt (q_33.1 0 6) := by rw [i_143.2 6 (by decide)]
                try have t_159 : Int32.toInt (q_140.1 0 6 + 1) = Int32.toInt (q_140.1 0 6) + 1 := ti_add rfl (by decide) (by omega) (by omega)
                have hTq_157 : TS q_157 := by rw [eq_157]; exact ts_f i_142 (ti_rg _).1 (ti_rg _).2
                have hFq_157 : dFr [1, 2] [0, 6, 13, 32] q q_157 := by rw [eq_157]; exact hFq_140.f (by decide)
                try have t_160 : Int32.toInt (x2_35 + 0) = Int32.toInt x2_35 + 0 := ti_add rfl (by decide) (by omega) (by omega)
                have f_161 : 0 ≤ Int32.toInt (q_157.1 2 31) ∧ Int32.toInt (q_157.1 2 31) ≤ 6 := hTq_157.1 2 31
                have w_162 : Int32.toInt (q_157.1 2 31) = Int32.toInt (q_140.1 2 31) := by rw [eq_157, dui_o (by decide)]
                have f_163 : -1 ≤ Int32.toInt (q_157.1 2 32) ∧ Int32.toInt (q_157.1 2 32) ≤ 5 := hTq_157.1 2 32
                have k_164 : Int32.toInt (q_157.1 2 32) < Int32.toInt (q_157.1 2 31) := hTq_157.2.1.1
                have w_165 : Int32.toInt (q_157.1 2 32) = Int32.toInt (q_140.1 2 32) := by rw [eq_157, dui_o (by decide)]
                exact hk_31 (q_157, (q.1 0 13), (x2_35 + 0), (x3_36 + 2)) (show (TS q_157) ∧ (dFr [2] [6] q_29 q_157) ∧ ((q.1 0 13) = (q.1 0 13)) ∧ (0 ≤ Int32.toInt (x3_36 + 2)) ∧ (Int32.toInt (x3_36 + 2) ≤ 402) ∧ (Int32.toInt (q_157.1 2 31) = Int32.toInt (q_29.1 2 31)) ∧ (Int32.toInt (q_157.1 2 32) = Int32.toInt (q_29.1 2 32)) from ⟨hTq_157, (by rw [eq_157]; exact (((((dFr.rf : dFr [2] [6] q_29 q_29).t a_38 (by decide) (by decide)) : dFr [2] [6] q_29 q_33).t i_143 (by decide) (by decide)) : dFr [2] [6] q_29 q_140).f (by decide)), rfl, by omega, by omega, by omega, by omega⟩) (show (402 - Int32.toInt (x3_36 + 2)).toNat < (402 - Int32.toInt x3_36).toNat by omega)
              · unfold zX10_row_146
                refine dOk_L (fun q_166 eq_166 => ?_)
                have w_167 : Int32.toInt (q_140.1 0 6) = Int32.toInt (q_33.1 0 6) := by rw [i_143.2 6 (by decide)]
                try have t_168 : Int32.toInt (q_140.1 0 6 + 0) = Int32.toInt (q_140.1 0 6) + 0 := ti_add rfl (by decide) (by omega) (by omega)
                have hTq_166 : TS q_166 := by rw [eq_166]; exact ts_f i_142 (ti_rg _).1 (ti_rg _).2
                have hFq_166 : dFr [1, 2] [0, 6, 13, 32] q q_166 := by rw [eq_166]; exact hFq_140.f (by decide)
                try have t_169 : Int32.toInt (x2_35 + 0) = Int32.toInt x2_35 + 0 := ti_add rfl (by decide) (by omega) (by omega)
                have f_170 : 0 ≤ Int32.toInt (q_166.1 2 31) ∧ Int32.toInt (q_166.1 2 31) ≤ 6 := hTq_166.1 2 31
                have w_171 : Int32.toInt (q_166.1 2 31) = Int32.toInt (q_140.1 2 31) := by rw [eq_166, dui_o (by decide)]
                have f_172 : -1 ≤ Int32.toInt (q_166.1 2 32) ∧ Int32.toInt (q_166.1 2 32) ≤ 5 := hTq_166.1 2 32
                have k_173 : Int32.toInt (q_166.1 2 32) < Int32.toInt (q_166.1 2 31) := hTq_166.2.1.1
                have w_174 : Int32.toInt (q_166.1 2 32) = Int32.toInt (q_140.1 2 32) := by rw [eq_166, dui_o (by decide)]
                exact hk_31 (q_166, (q.1 0 13), (x2_35 + 0), (x3_36 + 2)) (show (TS q_166) ∧ (dFr [2] [6] q_29 q_166) ∧ ((q.1 0 13) = (q.1 0 13)) ∧ (0 ≤ Int32.toInt (x3_36 + 2)) ∧ (Int32.toInt (x3_36 + 2) ≤ 402) ∧ (Int32.toInt (q_166.1 2 31) = Int32.toInt (q_29.1 2 31)) ∧ (Int32.toInt (q_166.1 2 32) = Int32.toInt (q_29.1 2 32)) from ⟨hTq_166, (by rw [eq_166]; exact (((((dFr.rf : dFr [2] [6] q_29 q_29).t a_38 (by decide) (by decide)) : dFr [2] [6] q_29 q_33).t i_143 (by decide) (by decide)) : dFr [2] [6] q_29 q_140).f (by decide)), rfl, by omega, by omega, by omega, by omega⟩) (show (402 - Int32.toInt (x3_36 + 2)).toNat < (402 - Int32.toInt x3_36).toNat by omega)
            · unfold zX10_row_129
              refine dOk_eq (A := 0) (B := 0) (by decide) (by decide) (fun c_175z c_175 => ?_) (fun c_176z c_176 => ?_)
              · unfold zX10_row_146
                refine dOk_L (fun q_178 eq_178 => ?_)
                have w_179 : Int32.toInt (q_140.1 0 6) = Int32.toInt (q_33.1 0 6) := by rw [i_143.2 6 (by decide)]
                try have t_180 : Int32.toInt (q_140.1 0 6 + 1) = Int32.toInt (q_140.1 0 6) + 1 := ti_add rfl (by decide) (by omega) (by omega)
                have hTq_178 : TS q_178 := by rw [eq_178]; exact ts_f i_142 (ti_rg _).1 (ti_rg _).2
                have hFq_178 : dFr [1, 2] [0, 6, 13, 32] q q_178 := by rw [eq_178]; exact hFq_140.f (by decide)
                try have t_181 : Int32.toInt (x2_35 + 1) = Int32.toInt x2_35 + 1 := ti_add rfl (by decide) (by omega) (by omega)
                have f_182 : 0 ≤ Int32.toInt (q_178.1 2 31) ∧ Int32.toInt (q_178.1 2 31) ≤ 6 := hTq_178.1 2 31
                have w_183 : Int32.toInt (q_178.1 2 31) = Int32.toInt (q_140.1 2 31) := by rw [eq_178, dui_o (by decide)]
                have f_184 : -1 ≤ Int32.toInt (q_178.1 2 32) ∧ Int32.toInt (q_178.1 2 32) ≤ 5 := hTq_178.1 2 32
                have k_185 : Int32.toInt (q_178.1 2 32) < Int32.toInt (q_178.1 2 31) := hTq_178.2.1.1
                have w_186 : Int32.toInt (q_178.1 2 32) = Int32.toInt (q_140.1 2 32) := by rw [eq_178, dui_o (by decide)]
                exact hk_31 (q_178, (q.1 0 13), (x2_35 + 1), (x3_36 + 2)) (show (TS q_178) ∧ (dFr [2] [6] q_29 q_178) ∧ ((q.1 0 13) = (q.1 0 13)) ∧ (0 ≤ Int32.toInt (x3_36 + 2)) ∧ (Int32.toInt (x3_36 + 2) ≤ 402) ∧ (Int32.toInt (q_178.1 2 31) = Int32.toInt (q_29.1 2 31)) ∧ (Int32.toInt (q_178.1 2 32) = Int32.toInt (q_29.1 2 32)) from ⟨hTq_178, (by rw [eq_178]; exact (((((dFr.rf : dFr [2] [6] q_29 q_29).t a_38 (by decide) (by decide)) : dFr [2] [6] q_29 q_33).t i_143 (by decide) (by decide)) : dFr [2] [6] q_29 q_140).f (by decide)), rfl, by omega, by omega, by omega, by omega⟩) (show (402 - Int32.toInt (x3_36 + 2)).toNat < (402 - Int32.toInt x3_36).toNat by omega)
              · unfold zX10_row_146
                refine dOk_L (fun q_187 eq_187 => ?_)
                have w_188 : Int32.toInt (q_140.1 0 6) = Int32.toInt (q_33.1 0 6) := by rw [i_143.2 6 (by decide)]
                try have t_189 : Int32.toInt (q_140.1 0 6 + 0) = Int32.toInt (q_140.1 0 6) + 0 := ti_add rfl (by decide) (by omega) (by omega)
                have hTq_187 : TS q_187 := by rw [eq_187]; exact ts_f i_142 (ti_rg _).1 (ti_rg _).2
                have hFq_187 : dFr [1, 2] [0, 6, 13, 32] q q_187 := by rw [eq_187]; exact hFq_140.f (by decide)
                try have t_190 : Int32.toInt (x2_35 + 1) = Int32.toInt x2_35 + 1 := ti_add rfl (by decide) (by omega) (by omega)
                have f_191 : 0 ≤ Int32.toInt (q_187.1 2 31) ∧ Int32.toInt (q_187.1 2 31) ≤ 6 := hTq_187.1 2 31
                have w_192 : Int32.toInt (q_187.1 2 31) = Int32.toInt (q_140.1 2 31) := by rw [eq_187, dui_o (by decide)]
                have f_193 : -1 ≤ Int32.toInt (q_187.1 2 32) ∧ Int32.toInt (q_187.1 2 32) ≤ 5 := hTq_187.1 2 32
                have k_194 : Int32.toInt (q_187.1 2 32) < Int32.toInt (q_187.1 2 31) := hTq_187.2.1.1
                have w_195 : Int32.toInt (q_187.1 2 32) = Int32.toInt (q_140.1 2 32) := by rw [eq_187, dui_o (by decide)]
                exact hk_31 (q_187, (q.1 0 13), (x2_35 + 1), (x3_36 + 2)) (show (TS q_187) ∧ (dFr [2] [6] q_29 q_187) ∧ ((q.1 0 13) = (q.1 0 13)) ∧ (0 ≤ Int32.toInt (x3_36 + 2)) ∧ (Int32.toInt (x3_36 + 2) ≤ 402) ∧ (Int32.toInt (q_187.1 2 31) = Int32.toInt (q_29.1 2 31)) ∧ (Int32.toInt (q_187.1 2 32) = Int32.toInt (q_29.1 2 32)) from ⟨hTq_187, (by rw [eq_187]; exact (((((dFr.rf : dFr [2] [6] q_29 q_29).t a_38 (by decide) (by decide)) : dFr [2] [6] q_29 q_33).t i_143 (by decide) (by decide)) : dFr [2] [6] q_29 q_140).f (by decide)), rfl, by omega, by omega, by omega, by omega⟩) (show (402 - Int32.toInt (x3_36 + 2)).toNat < (402 - Int32.toInt x3_36).toNat by omega)
        · refine dOk_G (dg_ok (show 0 ≤ Int32.toInt x3_36 by omega) (show Int32.toInt x3_36 < ((400 : Nat) : Int) by omega)) ?_
          have n_196 : ((Int32.toNatClampNeg x3_36 : Nat) : Int) = Int32.toInt x3_36 := cl_eq (by omega)
          refine dOk_L (fun v_197 ev_197 => ?_)
          refine dOk_V (ok_isRank v_197) (fun r_198 h_199 => ?_)
          replace h_199 : ((Int32.toInt r_198 = 1 ∧ 0 ≤ Int32.toInt v_197 ∧ Int32.toInt v_197 ≤ 5) ∨ (Int32.toInt r_198 = 0 ∧ (Int32.toInt v_197 < 0 ∨ 5 < Int32.toInt v_197))) := h_199
          have i_200 := h_199
          refine dOk_eq (A := Int32.toInt r_198) (B := 0) rfl (by decide) (fun c_201z c_201 => ?_) (fun c_202z c_202 => ?_)
          · unfold zX10_row_92
            unfold zX10_row_93
            refine dOk_eq (A := 0) (B := 0) (by decide) (by decide) (fun c_204z c_204 => ?_) (fun c_205z c_205 => ?_)
            · unfold zX10_row_118
              refine dOk_eq (A := 0) (B := 0) (by decide) (by decide) (fun c_207z c_207 => ?_) (fun c_208z c_208 => ?_)
              · unfold zX10_row_129
                refine dOk_eq (A := 0) (B := 0) (by decide) (by decide) (fun c_210z c_210 => ?_) (fun c_211z c_211 => ?_)
                · unfold zX10_row_146
                  refine dOk_L (fun q_213 eq_213 => ?_)
                  try have t_214 : Int32.toInt (q_33.1 0 6 + 1) = Int32.toInt (q_33.1 0 6) + 1 := ti_add rfl (by decide) (by omega) (by omega)
                  have hTq_213 : TS q_213 := by rw [eq_213]; exact ts_f a_37 (ti_rg _).1 (ti_rg _).2
                  have hFq_213 : dFr [1, 2] [0, 6, 13, 32] q q_213 := by rw [eq_213]; exact hFq_33.f (by decide)
                  try have t_215 : Int32.toInt (x2_35 + 0) = Int32.toInt x2_35 + 0 := ti_add rfl (by decide) (by omega) (by omega)
                  have f_216 : 0 ≤ Int32.toInt (q_213.1 2 31) ∧ Int32.toInt (q_213.1 2 31) ≤ 6 := hTq_213.1 2 31
                  have w_217 : Int32.toInt (q_213.1 2 31) = Int32.toInt (q_33.1 2 31) := by rw [eq_213, dui_o (by decide)]
                  have f_218 : -1 ≤ Int32.toInt (q_213.1 2 32) ∧ Int32.toInt (q_213.1 2 32) ≤ 5 := hTq_213.1 2 32
                  have k_219 : Int32.toInt (q_213.1 2 32) < Int32.toInt (q_213.1 2 31) := hTq_213.2.1.1
                  have w_220 : Int32.toInt (q_213.1 2 32) = Int32.toInt (q_33.1 2 32) := by rw [eq_213, dui_o (by decide)]
                  exact hk_31 (q_213, (q.1 0 13), (x2_35 + 0), (x3_36 + 2)) (show (TS q_213) ∧ (dFr [2] [6] q_29 q_213) ∧ ((q.1 0 13) = (q.1 0 13)) ∧ (0 ≤ Int32.toInt (x3_36 + 2)) ∧ (Int32.toInt (x3_36 + 2) ≤ 402) ∧ (Int32.toInt (q_213.1 2 31) = Int32.toInt (q_29.1 2 31)) ∧ (Int32.toInt (q_213.1 2 32) = Int32.toInt (q_29.1 2 32)) from ⟨hTq_213, (by rw [eq_213]; exact (((dFr.rf : dFr [2] [6] q_29 q_29).t a_38 (by decide) (by decide)) : dFr [2] [6] q_29 q_33).f (by decide)), rfl, by omega, by omega, by omega, by omega⟩) (show (402 - Int32.toInt (x3_36 + 2)).toNat < (402 - Int32.toInt x3_36).toNat by omega)
                · unfold zX10_row_146
                  refine dOk_L (fun q_221 eq_221 => ?_)
                  try have t_222 : Int32.toInt (q_33.1 0 6 + 0) = Int32.toInt (q_33.1 0 6) + 0 := ti_add rfl (by decide) (by omega) (by omega)
                  have hTq_221 : TS q_221 := by rw [eq_221]; exact ts_f a_37 (ti_rg _).1 (ti_rg _).2
                  have hFq_221 : dFr [1, 2] [0, 6, 13, 32] q q_221 := by rw [eq_221]; exact hFq_33.f (by decide)
                  try have t_223 : Int32.toInt (x2_35 + 0) = Int32.toInt x2_35 + 0 := ti_add rfl (by decide) (by omega) (by omega)
                  have f_224 : 0 ≤ Int32.toInt (q_221.1 2 31) ∧ Int32.toInt (q_221.1 2 31) ≤ 6 := hTq_221.1 2 31
                  have w_225 : Int32.toInt (q_221.1 2 31) = Int32.toInt (q_33.1 2 31) := by rw [eq_221, dui_o (by decide)]
                  have f_226 : -1 ≤ Int32.toInt (q_221.1 2 32) ∧ Int32.toInt (q_221.1 2 32) ≤ 5 := hTq_221.1 2 32
                  have k_227 : Int32.toInt (q_221.1 2 32) < Int32.toInt (q_221.1 2 31) := hTq_221.2.1.1
                  have w_228 : Int32.toInt (q_221.1 2 32) = Int32.toInt (q_33.1 2 32) := by rw [eq_221, dui_o (by decide)]
                  exact hk_31 (q_221, (q.1 0 13), (x2_35 + 0), (x3_36 + 2)) (show (TS q_221) ∧ (dFr [2] [6] q_29 q_221) ∧ ((q.1 0 13) = (q.1 0 13)) ∧ (0 ≤ Int32.toInt (x3_36 + 2)) ∧ (Int32.toInt (x3_36 + 2) ≤ 402) ∧ (Int32.toInt (q_221.1 2 31) = Int32.toInt (q_29.1 2 31)) ∧ (Int32.toInt (q_221.1 2 32) = Int32.toInt (q_29.1 2 32)) from ⟨hTq_221, (by rw [eq_221]; exact (((dFr.rf : dFr [2] [6] q_29 q_29).t a_38 (by decide) (by decide)) : dFr [2] [6] q_29 q_33).f (by decide)), rfl, by omega, by omega, by omega, by omega⟩) (show (402 - Int32.toInt (x3_36 + 2)).toNat < (402 - Int32.toInt x3_36).toNat by omega)
              · unfold zX10_row_129
                refine dOk_eq (A := 0) (B := 0) (by decide) (by decide) (fun c_229z c_229 => ?_) (fun c_230z c_230 => ?_)
                · unfold zX10_row_146
                  refine dOk_L (fun q_232 eq_232 => ?_)
                  try have t_233 : Int32.toInt (q_33.1 0 6 + 1) = Int32.toInt (q_33.1 0 6) + 1 := ti_add rfl (by decide) (by omega) (by omega)
                  have hTq_232 : TS q_232 := by rw [eq_232]; exact ts_f a_37 (ti_rg _).1 (ti_rg _).2
                  have hFq_232 : dFr [1, 2] [0, 6, 13, 32] q q_232 := by rw [eq_232]; exact hFq_33.f (by decide)
                  try have t_234 : Int32.toInt (x2_35 + 1) = Int32.toInt x2_35 + 1 := ti_add rfl (by decide) (by omega) (by omega)
                  have f_235 : 0 ≤ Int32.toInt (q_232.1 2 31) ∧ Int32.toInt (q_232.1 2 31) ≤ 6 := hTq_232.1 2 31
                  have w_236 : Int32.toInt (q_232.1 2 31) = Int32.toInt (q_33.1 2 31) := by rw [eq_232, dui_o (by decide)]
                  have f_237 : -1 ≤ Int32.toInt (q_232.1 2 32) ∧ Int32.toInt (q_232.1 2 32) ≤ 5 := hTq_232.1 2 32
                  have k_238 : Int32.toInt (q_232.1 2 32) < Int32.toInt (q_232.1 2 31) := hTq_232.2.1.1
                  have w_239 : Int32.toInt (q_232.1 2 32) = Int32.toInt (q_33.1 2 32) := by rw [eq_232, dui_o (by decide)]
                  exact hk_31 (q_232, (q.1 0 13), (x2_35 + 1), (x3_36 + 2)) (show (TS q_232) ∧ (dFr [2] [6] q_29 q_232) ∧ ((q.1 0 13) = (q.1 0 13)) ∧ (0 ≤ Int32.toInt (x3_36 + 2)) ∧ (Int32.toInt (x3_36 + 2) ≤ 402) ∧ (Int32.toInt (q_232.1 2 31) = Int32.toInt (q_29.1 2 31)) ∧ (Int32.toInt (q_232.1 2 32) = Int32.toInt (q_29.1 2 32)) from ⟨hTq_232, (by rw [eq_232]; exact (((dFr.rf : dFr [2] [6] q_29 q_29).t a_38 (by decide) (by decide)) : dFr [2] [6] q_29 q_33).f (by decide)), rfl, by omega, by omega, by omega, by omega⟩) (show (402 - Int32.toInt (x3_36 + 2)).toNat < (402 - Int32.toInt x3_36).toNat by omega)
                · unfold zX10_row_146
                  refine dOk_L (fun q_240 eq_240 => ?_)
                  try have t_241 : Int32.toInt (q_33.1 0 6 + 0) = Int32.toInt (q_33.1 0 6) + 0 := ti_add rfl (by decide) (by omega) (by omega)
                  have hTq_240 : TS q_240 := by rw [eq_240]; exact ts_f a_37 (ti_rg _).1 (ti_rg _).2
                  have hFq_240 : dFr [1, 2] [0, 6, 13, 32] q q_240 := by rw [eq_240]; exact hFq_33.f (by decide)
                  try have t_242 : Int32.toInt (x2_35 + 1) = Int32.toInt x2_35 + 1 := ti_add rfl (by decide) (by omega) (by omega)
                  have f_243 : 0 ≤ Int32.toInt (q_240.1 2 31) ∧ Int32.toInt (q_240.1 2 31) ≤ 6 := hTq_240.1 2 31
                  have w_244 : Int32.toInt (q_240.1 2 31) = Int32.toInt (q_33.1 2 31) := by rw [eq_240, dui_o (by decide)]
                  have f_245 : -1 ≤ Int32.toInt (q_240.1 2 32) ∧ Int32.toInt (q_240.1 2 32) ≤ 5 := hTq_240.1 2 32
                  have k_246 : Int32.toInt (q_240.1 2 32) < Int32.toInt (q_240.1 2 31) := hTq_240.2.1.1
                  have w_247 : Int32.toInt (q_240.1 2 32) = Int32.toInt (q_33.1 2 32) := by rw [eq_240, dui_o (by decide)]
                  exact hk_31 (q_240, (q.1 0 13), (x2_35 + 1), (x3_36 + 2)) (show (TS q_240) ∧ (dFr [2] [6] q_29 q_240) ∧ ((q.1 0 13) = (q.1 0 13)) ∧ (0 ≤ Int32.toInt (x3_36 + 2)) ∧ (Int32.toInt (x3_36 + 2) ≤ 402) ∧ (Int32.toInt (q_240.1 2 31) = Int32.toInt (q_29.1 2 31)) ∧ (Int32.toInt (q_240.1 2 32) = Int32.toInt (q_29.1 2 32)) from ⟨hTq_240, (by rw [eq_240]; exact (((dFr.rf : dFr [2] [6] q_29 q_29).t a_38 (by decide) (by decide)) : dFr [2] [6] q_29 q_33).f (by decide)), rfl, by omega, by omega, by omega, by omega⟩) (show (402 - Int32.toInt (x3_36 + 2)).toNat < (402 - Int32.toInt x3_36).toNat by omega)
            · refine dOk_G (dg_ok (show 0 ≤ Int32.toInt x3_36 by omega) (show Int32.toInt x3_36 < ((400 : Nat) : Int) by omega)) ?_
              refine dOk_L (fun v_248 ev_248 => ?_)
              have w_249 : Int32.toInt v_248 = Int32.toInt v_197 := by rw [ev_248, ev_197]
              try have t_250 : Int32.toInt (x3_36 + 1) = Int32.toInt x3_36 + 1 := ti_add rfl (by decide) (by omega) (by omega)
              refine dOk_G (dg_ok (show 0 ≤ Int32.toInt (x3_36 + 1) by omega) (show Int32.toInt (x3_36 + 1) < ((400 : Nat) : Int) by omega)) ?_
              have n_251 : ((Int32.toNatClampNeg (x3_36 + 1) : Nat) : Int) = Int32.toInt (x3_36 + 1) := cl_eq (by omega)
              refine dOk_L (fun v_252 ev_252 => ?_)
              refine dOk_V (ok_adds q_33 v_248 v_252 a_37 (show Int32.toInt (q_33.1 2 29) < 6 by omega) (show 0 ≤ Int32.toInt v_248 ∧ Int32.toInt v_248 ≤ 5 by omega) (show 0 ≤ Int32.toInt v_252 ∧ Int32.toInt v_252 ≤ 1 by omega)) (fun q_253 h_254 => ?_)
              replace h_254 : (TS q_253) ∧ (dFr [2] [] q_33 q_253) ∧ (Int32.toInt (q_253.1 2 29) = Int32.toInt (q_33.1 2 29) + 1) ∧ (Int32.toInt (q_253.1 2 31) = Int32.toInt (q_33.1 2 31)) ∧ (Int32.toInt (q_253.1 2 32) = Int32.toInt (q_33.1 2 32)) := h_254
              obtain ⟨i_255, i_256, i_257, i_258, i_259⟩ := h_254
              have hFq_253 : dFr [1, 2] [0, 6, 13, 32] q q_253 := hFq_33.t i_256 (by decide) (by decide)
              have f_260 : 0 ≤ Int32.toInt (q_253.1 2 29) ∧ Int32.toInt (q_253.1 2 29) ≤ 6 := i_255.1 2 29
              have f_261 : 0 ≤ Int32.toInt (q_253.1 2 31) ∧ Int32.toInt (q_253.1 2 31) ≤ 6 := i_255.1 2 31
              have f_262 : -1 ≤ Int32.toInt (q_253.1 2 32) ∧ Int32.toInt (q_253.1 2 32) ≤ 5 := i_255.1 2 32
              have k_263 : Int32.toInt (q_253.1 2 32) < Int32.toInt (q_253.1 2 31) := i_255.2.1.1
              unfold zX10_row_118
              refine dOk_eq (A := 0) (B := 0) (by decide) (by decide) (fun c_264z c_264 => ?_) (fun c_265z c_265 => ?_)
              · unfold zX10_row_129
                refine dOk_eq (A := 0) (B := 0) (by decide) (by decide) (fun c_267z c_267 => ?_) (fun c_268z c_268 => ?_)
                · unfold zX10_row_146
                  refine dOk_L (fun q_270 eq_270 => ?_)
                  have w_271 : Int32.toInt (q_253.1 0 6) = Int32.toInt (q_33.1 0 6) := by rw [i_256.2 6 (by decide)]
                  try have t_272 : Int32.toInt (q_253.1 0 6 + 1) = Int32.toInt (q_253.1 0 6) + 1 := ti_add rfl (by decide) (by omega) (by omega)
                  have hTq_270 : TS q_270 := by rw [eq_270]; exact ts_f i_255 (ti_rg _).1 (ti_rg _).2
                  have hFq_270 : dFr [1, 2] [0, 6, 13, 32] q q_270 := by rw [eq_270]; exact hFq_253.f (by decide)
                  try have t_273 : Int32.toInt (x2_35 + 0) = Int32.toInt x2_35 + 0 := ti_add rfl (by decide) (by omega) (by omega)
                  have f_274 : 0 ≤ Int32.toInt (q_270.1 2 31) ∧ Int32.toInt (q_270.1 2 31) ≤ 6 := hTq_270.1 2 31
                  have w_275 : Int32.toInt (q_270.1 2 31) = Int32.toInt (q_253.1 2 31) := by rw [eq_270, dui_o (by decide)]
                  have f_276 : -1 ≤ Int32.toInt (q_270.1 2 32) ∧ Int32.toInt (q_270.1 2 32) ≤ 5 := hTq_270.1 2 32
                  have k_277 : Int32.toInt (q_270.1 2 32) < Int32.toInt (q_270.1 2 31) := hTq_270.2.1.1
                  have w_278 : Int32.toInt (q_270.1 2 32) = Int32.toInt (q_253.1 2 32) := by rw [eq_270, dui_o (by decide)]
                  exact hk_31 (q_270, (q.1 0 13), (x2_35 + 0), (x3_36 + 2)) (show (TS q_270) ∧ (dFr [2] [6] q_29 q_270) ∧ ((q.1 0 13) = (q.1 0 13)) ∧ (0 ≤ Int32.toInt (x3_36 + 2)) ∧ (Int32.toInt (x3_36 + 2) ≤ 402) ∧ (Int32.toInt (q_270.1 2 31) = Int32.toInt (q_29.1 2 31)) ∧ (Int32.toInt (q_270.1 2 32) = Int32.toInt (q_29.1 2 32)) from ⟨hTq_270, (by rw [eq_270]; exact (((((dFr.rf : dFr [2] [6] q_29 q_29).t a_38 (by decide) (by decide)) : dFr [2] [6] q_29 q_33).t i_256 (by decide) (by decide)) : dFr [2] [6] q_29 q_253).f (by decide)), rfl, by omega, by omega, by omega, by omega⟩) (show (402 - Int32.toInt (x3_36 + 2)).toNat < (402 - Int32.toInt x3_36).toNat by omega)
                · unfold zX10_row_146
                  refine dOk_L (fun q_279 eq_279 => ?_)
                  have w_280 : Int32.toInt (q_253.1 0 6) = Int32.toInt (q_33.1 0 6) := by rw [i_256.2 6 (by decide)]
                  try have t_281 : Int32.toInt (q_253.1 0 6 + 0) = Int32.toInt (q_253.1 0 6) + 0 := ti_add rfl (by decide) (by omega) (by omega)
                  have hTq_279 : TS q_279 := by rw [eq_279]; exact ts_f i_255 (ti_rg _).1 (ti_rg _).2
                  have hFq_279 : dFr [1, 2] [0, 6, 13, 32] q q_279 := by rw [eq_279]; exact hFq_253.f (by decide)
                  try have t_282 : Int32.toInt (x2_35 + 0) = Int32.toInt x2_35 + 0 := ti_add rfl (by decide) (by omega) (by omega)
                  have f_283 : 0 ≤ Int32.toInt (q_279.1 2 31) ∧ Int32.toInt (q_279.1 2 31) ≤ 6 := hTq_279.1 2 31
                  have w_284 : Int32.toInt (q_279.1 2 31) = Int32.toInt (q_253.1 2 31) := by rw [eq_279, dui_o (by decide)]
                  have f_285 : -1 ≤ Int32.toInt (q_279.1 2 32) ∧ Int32.toInt (q_279.1 2 32) ≤ 5 := hTq_279.1 2 32
                  have k_286 : Int32.toInt (q_279.1 2 32) < Int32.toInt (q_279.1 2 31) := hTq_279.2.1.1
                  have w_287 : Int32.toInt (q_279.1 2 32) = Int32.toInt (q_253.1 2 32) := by rw [eq_279, dui_o (by decide)]
                  exact hk_31 (q_279, (q.1 0 13), (x2_35 + 0), (x3_36 + 2)) (show (TS q_279) ∧ (dFr [2] [6] q_29 q_279) ∧ ((q.1 0 13) = (q.1 0 13)) ∧ (0 ≤ Int32.toInt (x3_36 + 2)) ∧ (Int32.toInt (x3_36 + 2) ≤ 402) ∧ (Int32.toInt (q_279.1 2 31) = Int32.toInt (q_29.1 2 31)) ∧ (Int32.toInt (q_279.1 2 32) = Int32.toInt (q_29.1 2 32)) from ⟨hTq_279, (by rw [eq_279]; exact (((((dFr.rf : dFr [2] [6] q_29 q_29).t a_38 (by decide) (by decide)) : dFr [2] [6] q_29 q_33).t i_256 (by decide) (by decide)) : dFr [2] [6] q_29 q_253).f (by decide)), rfl, by omega, by omega, by omega, by omega⟩) (show (402 - Int32.toInt (x3_36 + 2)).toNat < (402 - Int32.toInt x3_36).toNat by omega)
              · unfold zX10_row_129
                refine dOk_eq (A := 0) (B := 0) (by decide) (by decide) (fun c_288z c_288 => ?_) (fun c_289z c_289 => ?_)
                · unfold zX10_row_146
                  refine dOk_L (fun q_291 eq_291 => ?_)
                  have w_292 : Int32.toInt (q_253.1 0 6) = Int32.toInt (q_33.1 0 6) := by rw [i_256.2 6 (by decide)]
                  try have t_293 : Int32.toInt (q_253.1 0 6 + 1) = Int32.toInt (q_253.1 0 6) + 1 := ti_add rfl (by decide) (by omega) (by omega)
                  have hTq_291 : TS q_291 := by rw [eq_291]; exact ts_f i_255 (ti_rg _).1 (ti_rg _).2
                  have hFq_291 : dFr [1, 2] [0, 6, 13, 32] q q_291 := by rw [eq_291]; exact hFq_253.f (by decide)
                  try have t_294 : Int32.toInt (x2_35 + 1) = Int32.toInt x2_35 + 1 := ti_add rfl (by decide) (by omega) (by omega)
                  have f_295 : 0 ≤ Int32.toInt (q_291.1 2 31) ∧ Int32.toInt (q_291.1 2 31) ≤ 6 := hTq_291.1 2 31
                  have w_296 : Int32.toInt (q_291.1 2 31) = Int32.toInt (q_253.1 2 31) := by rw [eq_291, dui_o (by decide)]
                  have f_297 : -1 ≤ Int32.toInt (q_291.1 2 32) ∧ Int32.toInt (q_291.1 2 32) ≤ 5 := hTq_291.1 2 32
                  have k_298 : Int32.toInt (q_291.1 2 32) < Int32.toInt (q_291.1 2 31) := hTq_291.2.1.1
                  have w_299 : Int32.toInt (q_291.1 2 32) = Int32.toInt (q_253.1 2 32) := by rw [eq_291, dui_o (by decide)]
                  exact hk_31 (q_291, (q.1 0 13), (x2_35 + 1), (x3_36 + 2)) (show (TS q_291) ∧ (dFr [2] [6] q_29 q_291) ∧ ((q.1 0 13) = (q.1 0 13)) ∧ (0 ≤ Int32.toInt (x3_36 + 2)) ∧ (Int32.toInt (x3_36 + 2) ≤ 402) ∧ (Int32.toInt (q_291.1 2 31) = Int32.toInt (q_29.1 2 31)) ∧ (Int32.toInt (q_291.1 2 32) = Int32.toInt (q_29.1 2 32)) from ⟨hTq_291, (by rw [eq_291]; exact (((((dFr.rf : dFr [2] [6] q_29 q_29).t a_38 (by decide) (by decide)) : dFr [2] [6] q_29 q_33).t i_256 (by decide) (by decide)) : dFr [2] [6] q_29 q_253).f (by decide)), rfl, by omega, by omega, by omega, by omega⟩) (show (402 - Int32.toInt (x3_36 + 2)).toNat < (402 - Int32.toInt x3_36).toNat by omega)
                · unfold zX10_row_146
                  refine dOk_L (fun q_300 eq_300 => ?_)
                  have w_301 : Int32.toInt (q_253.1 0 6) = Int32.toInt (q_33.1 0 6) := by rw [i_256.2 6 (by decide)]
                  try have t_302 : Int32.toInt (q_253.1 0 6 + 0) = Int32.toInt (q_253.1 0 6) + 0 := ti_add rfl (by decide) (by omega) (by omega)
                  have hTq_300 : TS q_300 := by rw [eq_300]; exact ts_f i_255 (ti_rg _).1 (ti_rg _).2
                  have hFq_300 : dFr [1, 2] [0, 6, 13, 32] q q_300 := by rw [eq_300]; exact hFq_253.f (by decide)
                  try have t_303 : Int32.toInt (x2_35 + 1) = Int32.toInt x2_35 + 1 := ti_add rfl (by decide) (by omega) (by omega)
                  have f_304 : 0 ≤ Int32.toInt (q_300.1 2 31) ∧ Int32.toInt (q_300.1 2 31) ≤ 6 := hTq_300.1 2 31
                  have w_305 : Int32.toInt (q_300.1 2 31) = Int32.toInt (q_253.1 2 31) := by rw [eq_300, dui_o (by decide)]
                  have f_306 : -1 ≤ Int32.toInt (q_300.1 2 32) ∧ Int32.toInt (q_300.1 2 32) ≤ 5 := hTq_300.1 2 32
                  have k_307 : Int32.toInt (q_300.1 2 32) < Int32.toInt (q_300.1 2 31) := hTq_300.2.1.1
                  have w_308 : Int32.toInt (q_300.1 2 32) = Int32.toInt (q_253.1 2 32) := by rw [eq_300, dui_o (by decide)]
                  exact hk_31 (q_300, (q.1 0 13), (x2_35 + 1), (x3_36 + 2)) (show (TS q_300) ∧ (dFr [2] [6] q_29 q_300) ∧ ((q.1 0 13) = (q.1 0 13)) ∧ (0 ≤ Int32.toInt (x3_36 + 2)) ∧ (Int32.toInt (x3_36 + 2) ≤ 402) ∧ (Int32.toInt (q_300.1 2 31) = Int32.toInt (q_29.1 2 31)) ∧ (Int32.toInt (q_300.1 2 32) = Int32.toInt (q_29.1 2 32)) from ⟨hTq_300, (by rw [eq_300]; exact (((((dFr.rf : dFr [2] [6] q_29 q_29).t a_38 (by decide) (by decide)) : dFr [2] [6] q_29 q_33).t i_256 (by decide) (by decide)) : dFr [2] [6] q_29 q_253).f (by decide)), rfl, by omega, by omega, by omega, by omega⟩) (show (402 - Int32.toInt (x3_36 + 2)).toNat < (402 - Int32.toInt x3_36).toNat by omega)
          · try have t_309 : Int32.toInt (x3_36 + 1) = Int32.toInt x3_36 + 1 := ti_add rfl (by decide) (by omega) (by omega)
            refine dOk_G (dg_ok (show 0 ≤ Int32.toInt (x3_36 + 1) by omega) (show Int32.toInt (x3_36 + 1) < ((400 : Nat) : Int) by omega)) ?_
            have n_310 : ((Int32.toNatClampNeg (x3_36 + 1) : Nat) : Int) = Int32.toInt (x3_36 + 1) := cl_eq (by omega)
            refine dOk_L (fun v_311 ev_311 => ?_)
            refine dOk_V (ok_isBit v_311) (fun r_312 h_313 => ?_)
            replace h_313 : ((Int32.toInt r_312 = 1 ∧ 0 ≤ Int32.toInt v_311 ∧ Int32.toInt v_311 ≤ 1) ∨ (Int32.toInt r_312 = 0 ∧ (Int32.toInt v_311 < 0 ∨ 1 < Int32.toInt v_311))) := h_313
            have i_314 := h_313
            refine dOk_eq (A := Int32.toInt r_312) (B := 0) rfl (by decide) (fun c_315z c_315 => ?_) (fun c_316z c_316 => ?_)
            · unfold zX10_row_92
              unfold zX10_row_93
              refine dOk_eq (A := 0) (B := 0) (by decide) (by decide) (fun c_318z c_318 => ?_) (fun c_319z c_319 => ?_)
              · unfold zX10_row_118
                refine dOk_eq (A := 0) (B := 0) (by decide) (by decide) (fun c_321z c_321 => ?_) (fun c_322z c_322 => ?_)
                · unfold zX10_row_129
                  refine dOk_eq (A := 0) (B := 0) (by decide) (by decide) (fun c_324z c_324 => ?_) (fun c_325z c_325 => ?_)
                  · unfold zX10_row_146
                    refine dOk_L (fun q_327 eq_327 => ?_)
                    try have t_328 : Int32.toInt (q_33.1 0 6 + 1) = Int32.toInt (q_33.1 0 6) + 1 := ti_add rfl (by decide) (by omega) (by omega)
                    have hTq_327 : TS q_327 := by rw [eq_327]; exact ts_f a_37 (ti_rg _).1 (ti_rg _).2
                    have hFq_327 : dFr [1, 2] [0, 6, 13, 32] q q_327 := by rw [eq_327]; exact hFq_33.f (by decide)
                    try have t_329 : Int32.toInt (x2_35 + 0) = Int32.toInt x2_35 + 0 := ti_add rfl (by decide) (by omega) (by omega)
                    have f_330 : 0 ≤ Int32.toInt (q_327.1 2 31) ∧ Int32.toInt (q_327.1 2 31) ≤ 6 := hTq_327.1 2 31
                    have w_331 : Int32.toInt (q_327.1 2 31) = Int32.toInt (q_33.1 2 31) := by rw [eq_327, dui_o (by decide)]
                    have f_332 : -1 ≤ Int32.toInt (q_327.1 2 32) ∧ Int32.toInt (q_327.1 2 32) ≤ 5 := hTq_327.1 2 32
                    have k_333 : Int32.toInt (q_327.1 2 32) < Int32.toInt (q_327.1 2 31) := hTq_327.2.1.1
                    have w_334 : Int32.toInt (q_327.1 2 32) = Int32.toInt (q_33.1 2 32) := by rw [eq_327, dui_o (by decide)]
                    exact hk_31 (q_327, (q.1 0 13), (x2_35 + 0), (x3_36 + 2)) (show (TS q_327) ∧ (dFr [2] [6] q_29 q_327) ∧ ((q.1 0 13) = (q.1 0 13)) ∧ (0 ≤ Int32.toInt (x3_36 + 2)) ∧ (Int32.toInt (x3_36 + 2) ≤ 402) ∧ (Int32.toInt (q_327.1 2 31) = Int32.toInt (q_29.1 2 31)) ∧ (Int32.toInt (q_327.1 2 32) = Int32.toInt (q_29.1 2 32)) from ⟨hTq_327, (by rw [eq_327]; exact (((dFr.rf : dFr [2] [6] q_29 q_29).t a_38 (by decide) (by decide)) : dFr [2] [6] q_29 q_33).f (by decide)), rfl, by omega, by omega, by omega, by omega⟩) (show (402 - Int32.toInt (x3_36 + 2)).toNat < (402 - Int32.toInt x3_36).toNat by omega)
                  · unfold zX10_row_146
                    refine dOk_L (fun q_335 eq_335 => ?_)
                    try have t_336 : Int32.toInt (q_33.1 0 6 + 0) = Int32.toInt (q_33.1 0 6) + 0 := ti_add rfl (by decide) (by omega) (by omega)
                    have hTq_335 : TS q_335 := by rw [eq_335]; exact ts_f a_37 (ti_rg _).1 (ti_rg _).2
                    have hFq_335 : dFr [1, 2] [0, 6, 13, 32] q q_335 := by rw [eq_335]; exact hFq_33.f (by decide)
                    try have t_337 : Int32.toInt (x2_35 + 0) = Int32.toInt x2_35 + 0 := ti_add rfl (by decide) (by omega) (by omega)
                    have f_338 : 0 ≤ Int32.toInt (q_335.1 2 31) ∧ Int32.toInt (q_335.1 2 31) ≤ 6 := hTq_335.1 2 31
                    have w_339 : Int32.toInt (q_335.1 2 31) = Int32.toInt (q_33.1 2 31) := by rw [eq_335, dui_o (by decide)]
                    have f_340 : -1 ≤ Int32.toInt (q_335.1 2 32) ∧ Int32.toInt (q_335.1 2 32) ≤ 5 := hTq_335.1 2 32
                    have k_341 : Int32.toInt (q_335.1 2 32) < Int32.toInt (q_335.1 2 31) := hTq_335.2.1.1
                    have w_342 : Int32.toInt (q_335.1 2 32) = Int32.toInt (q_33.1 2 32) := by rw [eq_335, dui_o (by decide)]
                    exact hk_31 (q_335, (q.1 0 13), (x2_35 + 0), (x3_36 + 2)) (show (TS q_335) ∧ (dFr [2] [6] q_29 q_335) ∧ ((q.1 0 13) = (q.1 0 13)) ∧ (0 ≤ Int32.toInt (x3_36 + 2)) ∧ (Int32.toInt (x3_36 + 2) ≤ 402) ∧ (Int32.toInt (q_335.1 2 31) = Int32.toInt (q_29.1 2 31)) ∧ (Int32.toInt (q_335.1 2 32) = Int32.toInt (q_29.1 2 32)) from ⟨hTq_335, (by rw [eq_335]; exact (((dFr.rf : dFr [2] [6] q_29 q_29).t a_38 (by decide) (by decide)) : dFr [2] [6] q_29 q_33).f (by decide)), rfl, by omega, by omega, by omega, by omega⟩) (show (402 - Int32.toInt (x3_36 + 2)).toNat < (402 - Int32.toInt x3_36).toNat by omega)
                · unfold zX10_row_129
                  refine dOk_eq (A := 0) (B := 0) (by decide) (by decide) (fun c_343z c_343 => ?_) (fun c_344z c_344 => ?_)
                  · unfold zX10_row_146
                    refine dOk_L (fun q_346 eq_346 => ?_)
                    try have t_347 : Int32.toInt (q_33.1 0 6 + 1) = Int32.toInt (q_33.1 0 6) + 1 := ti_add rfl (by decide) (by omega) (by omega)
                    have hTq_346 : TS q_346 := by rw [eq_346]; exact ts_f a_37 (ti_rg _).1 (ti_rg _).2
                    have hFq_346 : dFr [1, 2] [0, 6, 13, 32] q q_346 := by rw [eq_346]; exact hFq_33.f (by decide)
                    try have t_348 : Int32.toInt (x2_35 + 1) = Int32.toInt x2_35 + 1 := ti_add rfl (by decide) (by omega) (by omega)
                    have f_349 : 0 ≤ Int32.toInt (q_346.1 2 31) ∧ Int32.toInt (q_346.1 2 31) ≤ 6 := hTq_346.1 2 31
                    have w_350 : Int32.toInt (q_346.1 2 31) = Int32.toInt (q_33.1 2 31) := by rw [eq_346, dui_o (by decide)]
                    have f_351 : -1 ≤ Int32.toInt (q_346.1 2 32) ∧ Int32.toInt (q_346.1 2 32) ≤ 5 := hTq_346.1 2 32
                    have k_352 : Int32.toInt (q_346.1 2 32) < Int32.toInt (q_346.1 2 31) := hTq_346.2.1.1
                    have w_353 : Int32.toInt (q_346.1 2 32) = Int32.toInt (q_33.1 2 32) := by rw [eq_346, dui_o (by decide)]
                    exact hk_31 (q_346, (q.1 0 13), (x2_35 + 1), (x3_36 + 2)) (show (TS q_346) ∧ (dFr [2] [6] q_29 q_346) ∧ ((q.1 0 13) = (q.1 0 13)) ∧ (0 ≤ Int32.toInt (x3_36 + 2)) ∧ (Int32.toInt (x3_36 + 2) ≤ 402) ∧ (Int32.toInt (q_346.1 2 31) = Int32.toInt (q_29.1 2 31)) ∧ (Int32.toInt (q_346.1 2 32) = Int32.toInt (q_29.1 2 32)) from ⟨hTq_346, (by rw [eq_346]; exact (((dFr.rf : dFr [2] [6] q_29 q_29).t a_38 (by decide) (by decide)) : dFr [2] [6] q_29 q_33).f (by decide)), rfl, by omega, by omega, by omega, by omega⟩) (show (402 - Int32.toInt (x3_36 + 2)).toNat < (402 - Int32.toInt x3_36).toNat by omega)
                  · unfold zX10_row_146
                    refine dOk_L (fun q_354 eq_354 => ?_)
                    try have t_355 : Int32.toInt (q_33.1 0 6 + 0) = Int32.toInt (q_33.1 0 6) + 0 := ti_add rfl (by decide) (by omega) (by omega)
                    have hTq_354 : TS q_354 := by rw [eq_354]; exact ts_f a_37 (ti_rg _).1 (ti_rg _).2
                    have hFq_354 : dFr [1, 2] [0, 6, 13, 32] q q_354 := by rw [eq_354]; exact hFq_33.f (by decide)
                    try have t_356 : Int32.toInt (x2_35 + 1) = Int32.toInt x2_35 + 1 := ti_add rfl (by decide) (by omega) (by omega)
                    have f_357 : 0 ≤ Int32.toInt (q_354.1 2 31) ∧ Int32.toInt (q_354.1 2 31) ≤ 6 := hTq_354.1 2 31
                    have w_358 : Int32.toInt (q_354.1 2 31) = Int32.toInt (q_33.1 2 31) := by rw [eq_354, dui_o (by decide)]
                    have f_359 : -1 ≤ Int32.toInt (q_354.1 2 32) ∧ Int32.toInt (q_354.1 2 32) ≤ 5 := hTq_354.1 2 32
                    have k_360 : Int32.toInt (q_354.1 2 32) < Int32.toInt (q_354.1 2 31) := hTq_354.2.1.1
                    have w_361 : Int32.toInt (q_354.1 2 32) = Int32.toInt (q_33.1 2 32) := by rw [eq_354, dui_o (by decide)]
                    exact hk_31 (q_354, (q.1 0 13), (x2_35 + 1), (x3_36 + 2)) (show (TS q_354) ∧ (dFr [2] [6] q_29 q_354) ∧ ((q.1 0 13) = (q.1 0 13)) ∧ (0 ≤ Int32.toInt (x3_36 + 2)) ∧ (Int32.toInt (x3_36 + 2) ≤ 402) ∧ (Int32.toInt (q_354.1 2 31) = Int32.toInt (q_29.1 2 31)) ∧ (Int32.toInt (q_354.1 2 32) = Int32.toInt (q_29.1 2 32)) from ⟨hTq_354, (by rw [eq_354]; exact (((dFr.rf : dFr [2] [6] q_29 q_29).t a_38 (by decide) (by decide)) : dFr [2] [6] q_29 q_33).f (by decide)), rfl, by omega, by omega, by omega, by omega⟩) (show (402 - Int32.toInt (x3_36 + 2)).toNat < (402 - Int32.toInt x3_36).toNat by omega)
              · refine dOk_G (dg_ok (show 0 ≤ Int32.toInt x3_36 by omega) (show Int32.toInt x3_36 < ((400 : Nat) : Int) by omega)) ?_
                refine dOk_L (fun v_362 ev_362 => ?_)
                have w_363 : Int32.toInt v_362 = Int32.toInt v_197 := by rw [ev_362, ev_197]
                refine dOk_G (dg_ok (show 0 ≤ Int32.toInt (x3_36 + 1) by omega) (show Int32.toInt (x3_36 + 1) < ((400 : Nat) : Int) by omega)) ?_
                refine dOk_L (fun v_364 ev_364 => ?_)
                have w_365 : Int32.toInt v_364 = Int32.toInt v_311 := by rw [ev_364, ev_311]
                refine dOk_V (ok_adds q_33 v_362 v_364 a_37 (show Int32.toInt (q_33.1 2 29) < 6 by omega) (show 0 ≤ Int32.toInt v_362 ∧ Int32.toInt v_362 ≤ 5 by omega) (show 0 ≤ Int32.toInt v_364 ∧ Int32.toInt v_364 ≤ 1 by omega)) (fun q_366 h_367 => ?_)
                replace h_367 : (TS q_366) ∧ (dFr [2] [] q_33 q_366) ∧ (Int32.toInt (q_366.1 2 29) = Int32.toInt (q_33.1 2 29) + 1) ∧ (Int32.toInt (q_366.1 2 31) = Int32.toInt (q_33.1 2 31)) ∧ (Int32.toInt (q_366.1 2 32) = Int32.toInt (q_33.1 2 32)) := h_367
                obtain ⟨i_368, i_369, i_370, i_371, i_372⟩ := h_367
                have hFq_366 : dFr [1, 2] [0, 6, 13, 32] q q_366 := hFq_33.t i_369 (by decide) (by decide)
                have f_373 : 0 ≤ Int32.toInt (q_366.1 2 29) ∧ Int32.toInt (q_366.1 2 29) ≤ 6 := i_368.1 2 29
                have f_374 : 0 ≤ Int32.toInt (q_366.1 2 31) ∧ Int32.toInt (q_366.1 2 31) ≤ 6 := i_368.1 2 31
                have f_375 : -1 ≤ Int32.toInt (q_366.1 2 32) ∧ Int32.toInt (q_366.1 2 32) ≤ 5 := i_368.1 2 32
                have k_376 : Int32.toInt (q_366.1 2 32) < Int32.toInt (q_366.1 2 31) := i_368.2.1.1
                unfold zX10_row_118
                refine dOk_eq (A := 0) (B := 0) (by decide) (by decide) (fun c_377z c_377 => ?_) (fun c_378z c_378 => ?_)
                · unfold zX10_row_129
                  refine dOk_eq (A := 0) (B := 0) (by decide) (by decide) (fun c_380z c_380 => ?_) (fun c_381z c_381 => ?_)
                  · unfold zX10_row_146
                    refine dOk_L (fun q_383 eq_383 => ?_)
                    have w_384 : Int32.toInt (q_366.1 0 6) = Int32.toInt (q_33.1 0 6) := by rw [i_369.2 6 (by decide)]
                    try have t_385 : Int32.toInt (q_366.1 0 6 + 1) = Int32.toInt (q_366.1 0 6) + 1 := ti_add rfl (by decide) (by omega) (by omega)
                    have hTq_383 : TS q_383 := by rw [eq_383]; exact ts_f i_368 (ti_rg _).1 (ti_rg _).2
                    have hFq_383 : dFr [1, 2] [0, 6, 13, 32] q q_383 := by rw [eq_383]; exact hFq_366.f (by decide)
                    try have t_386 : Int32.toInt (x2_35 + 0) = Int32.toInt x2_35 + 0 := ti_add rfl (by decide) (by omega) (by omega)
                    have f_387 : 0 ≤ Int32.toInt (q_383.1 2 31) ∧ Int32.toInt (q_383.1 2 31) ≤ 6 := hTq_383.1 2 31
                    have w_388 : Int32.toInt (q_383.1 2 31) = Int32.toInt (q_366.1 2 31) := by rw [eq_383, dui_o (by decide)]
                    have f_389 : -1 ≤ Int32.toInt (q_383.1 2 32) ∧ Int32.toInt (q_383.1 2 32) ≤ 5 := hTq_383.1 2 32
                    have k_390 : Int32.toInt (q_383.1 2 32) < Int32.toInt (q_383.1 2 31) := hTq_383.2.1.1
                    have w_391 : Int32.toInt (q_383.1 2 32) = Int32.toInt (q_366.1 2 32) := by rw [eq_383, dui_o (by decide)]
                    exact hk_31 (q_383, (q.1 0 13), (x2_35 + 0), (x3_36 + 2)) (show (TS q_383) ∧ (dFr [2] [6] q_29 q_383) ∧ ((q.1 0 13) = (q.1 0 13)) ∧ (0 ≤ Int32.toInt (x3_36 + 2)) ∧ (Int32.toInt (x3_36 + 2) ≤ 402) ∧ (Int32.toInt (q_383.1 2 31) = Int32.toInt (q_29.1 2 31)) ∧ (Int32.toInt (q_383.1 2 32) = Int32.toInt (q_29.1 2 32)) from ⟨hTq_383, (by rw [eq_383]; exact (((((dFr.rf : dFr [2] [6] q_29 q_29).t a_38 (by decide) (by decide)) : dFr [2] [6] q_29 q_33).t i_369 (by decide) (by decide)) : dFr [2] [6] q_29 q_366).f (by decide)), rfl, by omega, by omega, by omega, by omega⟩) (show (402 - Int32.toInt (x3_36 + 2)).toNat < (402 - Int32.toInt x3_36).toNat by omega)
                  · unfold zX10_row_146
                    refine dOk_L (fun q_392 eq_392 => ?_)
                    have w_393 : Int32.toInt (q_366.1 0 6) = Int32.toInt (q_33.1 0 6) := by rw [i_369.2 6 (by decide)]
                    try have t_394 : Int32.toInt (q_366.1 0 6 + 0) = Int32.toInt (q_366.1 0 6) + 0 := ti_add rfl (by decide) (by omega) (by omega)
                    have hTq_392 : TS q_392 := by rw [eq_392]; exact ts_f i_368 (ti_rg _).1 (ti_rg _).2
                    have hFq_392 : dFr [1, 2] [0, 6, 13, 32] q q_392 := by rw [eq_392]; exact hFq_366.f (by decide)
                    try have t_395 : Int32.toInt (x2_35 + 0) = Int32.toInt x2_35 + 0 := ti_add rfl (by decide) (by omega) (by omega)
                    have f_396 : 0 ≤ Int32.toInt (q_392.1 2 31) ∧ Int32.toInt (q_392.1 2 31) ≤ 6 := hTq_392.1 2 31
                    have w_397 : Int32.toInt (q_392.1 2 31) = Int32.toInt (q_366.1 2 31) := by rw [eq_392, dui_o (by decide)]
                    have f_398 : -1 ≤ Int32.toInt (q_392.1 2 32) ∧ Int32.toInt (q_392.1 2 32) ≤ 5 := hTq_392.1 2 32
                    have k_399 : Int32.toInt (q_392.1 2 32) < Int32.toInt (q_392.1 2 31) := hTq_392.2.1.1
                    have w_400 : Int32.toInt (q_392.1 2 32) = Int32.toInt (q_366.1 2 32) := by rw [eq_392, dui_o (by decide)]
                    exact hk_31 (q_392, (q.1 0 13), (x2_35 + 0), (x3_36 + 2)) (show (TS q_392) ∧ (dFr [2] [6] q_29 q_392) ∧ ((q.1 0 13) = (q.1 0 13)) ∧ (0 ≤ Int32.toInt (x3_36 + 2)) ∧ (Int32.toInt (x3_36 + 2) ≤ 402) ∧ (Int32.toInt (q_392.1 2 31) = Int32.toInt (q_29.1 2 31)) ∧ (Int32.toInt (q_392.1 2 32) = Int32.toInt (q_29.1 2 32)) from ⟨hTq_392, (by rw [eq_392]; exact (((((dFr.rf : dFr [2] [6] q_29 q_29).t a_38 (by decide) (by decide)) : dFr [2] [6] q_29 q_33).t i_369 (by decide) (by decide)) : dFr [2] [6] q_29 q_366).f (by decide)), rfl, by omega, by omega, by omega, by omega⟩) (show (402 - Int32.toInt (x3_36 + 2)).toNat < (402 - Int32.toInt x3_36).toNat by omega)
                · unfold zX10_row_129
                  refine dOk_eq (A := 0) (B := 0) (by decide) (by decide) (fun c_401z c_401 => ?_) (fun c_402z c_402 => ?_)
                  · unfold zX10_row_146
                    refine dOk_L (fun q_404 eq_404 => ?_)
                    have w_405 : Int32.toInt (q_366.1 0 6) = Int32.toInt (q_33.1 0 6) := by rw [i_369.2 6 (by decide)]
                    try have t_406 : Int32.toInt (q_366.1 0 6 + 1) = Int32.toInt (q_366.1 0 6) + 1 := ti_add rfl (by decide) (by omega) (by omega)
                    have hTq_404 : TS q_404 := by rw [eq_404]; exact ts_f i_368 (ti_rg _).1 (ti_rg _).2
                    have hFq_404 : dFr [1, 2] [0, 6, 13, 32] q q_404 := by rw [eq_404]; exact hFq_366.f (by decide)
                    try have t_407 : Int32.toInt (x2_35 + 1) = Int32.toInt x2_35 + 1 := ti_add rfl (by decide) (by omega) (by omega)
                    have f_408 : 0 ≤ Int32.toInt (q_404.1 2 31) ∧ Int32.toInt (q_404.1 2 31) ≤ 6 := hTq_404.1 2 31
                    have w_409 : Int32.toInt (q_404.1 2 31) = Int32.toInt (q_366.1 2 31) := by rw [eq_404, dui_o (by decide)]
                    have f_410 : -1 ≤ Int32.toInt (q_404.1 2 32) ∧ Int32.toInt (q_404.1 2 32) ≤ 5 := hTq_404.1 2 32
                    have k_411 : Int32.toInt (q_404.1 2 32) < Int32.toInt (q_404.1 2 31) := hTq_404.2.1.1
                    have w_412 : Int32.toInt (q_404.1 2 32) = Int32.toInt (q_366.1 2 32) := by rw [eq_404, dui_o (by decide)]
                    exact hk_31 (q_404, (q.1 0 13), (x2_35 + 1), (x3_36 + 2)) (show (TS q_404) ∧ (dFr [2] [6] q_29 q_404) ∧ ((q.1 0 13) = (q.1 0 13)) ∧ (0 ≤ Int32.toInt (x3_36 + 2)) ∧ (Int32.toInt (x3_36 + 2) ≤ 402) ∧ (Int32.toInt (q_404.1 2 31) = Int32.toInt (q_29.1 2 31)) ∧ (Int32.toInt (q_404.1 2 32) = Int32.toInt (q_29.1 2 32)) from ⟨hTq_404, (by rw [eq_404]; exact (((((dFr.rf : dFr [2] [6] q_29 q_29).t a_38 (by decide) (by decide)) : dFr [2] [6] q_29 q_33).t i_369 (by decide) (by decide)) : dFr [2] [6] q_29 q_366).f (by decide)), rfl, by omega, by omega, by omega, by omega⟩) (show (402 - Int32.toInt (x3_36 + 2)).toNat < (402 - Int32.toInt x3_36).toNat by omega)
                  · unfold zX10_row_146
                    refine dOk_L (fun q_413 eq_413 => ?_)
                    have w_414 : Int32.toInt (q_366.1 0 6) = Int32.toInt (q_33.1 0 6) := by rw [i_369.2 6 (by decide)]
                    try have t_415 : Int32.toInt (q_366.1 0 6 + 0) = Int32.toInt (q_366.1 0 6) + 0 := ti_add rfl (by decide) (by omega) (by omega)
                    have hTq_413 : TS q_413 := by rw [eq_413]; exact ts_f i_368 (ti_rg _).1 (ti_rg _).2
                    have hFq_413 : dFr [1, 2] [0, 6, 13, 32] q q_413 := by rw [eq_413]; exact hFq_366.f (by decide)
                    try have t_416 : Int32.toInt (x2_35 + 1) = Int32.toInt x2_35 + 1 := ti_add rfl (by decide) (by omega) (by omega)
                    have f_417 : 0 ≤ Int32.toInt (q_413.1 2 31) ∧ Int32.toInt (q_413.1 2 31) ≤ 6 := hTq_413.1 2 31
                    have w_418 : Int32.toInt (q_413.1 2 31) = Int32.toInt (q_366.1 2 31) := by rw [eq_413, dui_o (by decide)]
                    have f_419 : -1 ≤ Int32.toInt (q_413.1 2 32) ∧ Int32.toInt (q_413.1 2 32) ≤ 5 := hTq_413.1 2 32
                    have k_420 : Int32.toInt (q_413.1 2 32) < Int32.toInt (q_413.1 2 31) := hTq_413.2.1.1
                    have w_421 : Int32.toInt (q_413.1 2 32) = Int32.toInt (q_366.1 2 32) := by rw [eq_413, dui_o (by decide)]
                    exact hk_31 (q_413, (q.1 0 13), (x2_35 + 1), (x3_36 + 2)) (show (TS q_413) ∧ (dFr [2] [6] q_29 q_413) ∧ ((q.1 0 13) = (q.1 0 13)) ∧ (0 ≤ Int32.toInt (x3_36 + 2)) ∧ (Int32.toInt (x3_36 + 2) ≤ 402) ∧ (Int32.toInt (q_413.1 2 31) = Int32.toInt (q_29.1 2 31)) ∧ (Int32.toInt (q_413.1 2 32) = Int32.toInt (q_29.1 2 32)) from ⟨hTq_413, (by rw [eq_413]; exact (((((dFr.rf : dFr [2] [6] q_29 q_29).t a_38 (by decide) (by decide)) : dFr [2] [6] q_29 q_33).t i_369 (by decide) (by decide)) : dFr [2] [6] q_29 q_366).f (by decide)), rfl, by omega, by omega, by omega, by omega⟩) (show (402 - Int32.toInt (x3_36 + 2)).toNat < (402 - Int32.toInt x3_36).toNat by omega)
            · refine dOk_G (dg_ok (show 0 ≤ Int32.toInt x3_36 by omega) (show Int32.toInt x3_36 < ((400 : Nat) : Int) by omega)) ?_
              refine dOk_L (fun v_422 ev_422 => ?_)
              have w_423 : Int32.toInt v_422 = Int32.toInt v_197 := by rw [ev_422, ev_197]
              refine dOk_B (ok_placeOf q_33 v_422 a_37) (fun r_424 q_425 h_426 => ?_)
              replace h_426 : (q_425 = q_33) ∧ (-1 ≤ Int32.toInt r_424 ∧ Int32.toInt r_424 ≤ 5) := h_426
              obtain ⟨i_427, i_428⟩ := h_426
              subst q_425
              refine dOk_eq (A := Int32.toInt r_424) (B := (-1)) rfl (by decide) (fun c_429z c_429 => ?_) (fun c_430z c_430 => ?_)
              · unfold zX10_row_93
                refine dOk_eq (A := 1) (B := 0) (by decide) (by decide) (fun c_432z c_432 => ?_) (fun c_433z c_433 => ?_)
                · unfold zX10_row_118
                  refine dOk_eq (A := 1) (B := 0) (by decide) (by decide) (fun c_435z c_435 => ?_) (fun c_436z c_436 => ?_)
                  · unfold zX10_row_129
                    refine dOk_eq (A := 1) (B := 0) (by decide) (by decide) (fun c_438z c_438 => ?_) (fun c_439z c_439 => ?_)
                    · unfold zX10_row_146
                      refine dOk_L (fun q_441 eq_441 => ?_)
                      try have t_442 : Int32.toInt (q_33.1 0 6 + 1) = Int32.toInt (q_33.1 0 6) + 1 := ti_add rfl (by decide) (by omega) (by omega)
                      have hTq_441 : TS q_441 := by rw [eq_441]; exact ts_f a_37 (ti_rg _).1 (ti_rg _).2
                      have hFq_441 : dFr [1, 2] [0, 6, 13, 32] q q_441 := by rw [eq_441]; exact hFq_33.f (by decide)
                      try have t_443 : Int32.toInt (x2_35 + 0) = Int32.toInt x2_35 + 0 := ti_add rfl (by decide) (by omega) (by omega)
                      have f_444 : 0 ≤ Int32.toInt (q_441.1 2 31) ∧ Int32.toInt (q_441.1 2 31) ≤ 6 := hTq_441.1 2 31
                      have w_445 : Int32.toInt (q_441.1 2 31) = Int32.toInt (q_33.1 2 31) := by rw [eq_441, dui_o (by decide)]
                      have f_446 : -1 ≤ Int32.toInt (q_441.1 2 32) ∧ Int32.toInt (q_441.1 2 32) ≤ 5 := hTq_441.1 2 32
                      have k_447 : Int32.toInt (q_441.1 2 32) < Int32.toInt (q_441.1 2 31) := hTq_441.2.1.1
                      have w_448 : Int32.toInt (q_441.1 2 32) = Int32.toInt (q_33.1 2 32) := by rw [eq_441, dui_o (by decide)]
                      exact hk_31 (q_441, (q.1 0 13), (x2_35 + 0), (x3_36 + 2)) (show (TS q_441) ∧ (dFr [2] [6] q_29 q_441) ∧ ((q.1 0 13) = (q.1 0 13)) ∧ (0 ≤ Int32.toInt (x3_36 + 2)) ∧ (Int32.toInt (x3_36 + 2) ≤ 402) ∧ (Int32.toInt (q_441.1 2 31) = Int32.toInt (q_29.1 2 31)) ∧ (Int32.toInt (q_441.1 2 32) = Int32.toInt (q_29.1 2 32)) from ⟨hTq_441, (by rw [eq_441]; exact (((dFr.rf : dFr [2] [6] q_29 q_29).t a_38 (by decide) (by decide)) : dFr [2] [6] q_29 q_33).f (by decide)), rfl, by omega, by omega, by omega, by omega⟩) (show (402 - Int32.toInt (x3_36 + 2)).toNat < (402 - Int32.toInt x3_36).toNat by omega)
                    · unfold zX10_row_146
                      refine dOk_L (fun q_449 eq_449 => ?_)
                      try have t_450 : Int32.toInt (q_33.1 0 6 + 0) = Int32.toInt (q_33.1 0 6) + 0 := ti_add rfl (by decide) (by omega) (by omega)
                      have hTq_449 : TS q_449 := by rw [eq_449]; exact ts_f a_37 (ti_rg _).1 (ti_rg _).2
                      have hFq_449 : dFr [1, 2] [0, 6, 13, 32] q q_449 := by rw [eq_449]; exact hFq_33.f (by decide)
                      try have t_451 : Int32.toInt (x2_35 + 0) = Int32.toInt x2_35 + 0 := ti_add rfl (by decide) (by omega) (by omega)
                      have f_452 : 0 ≤ Int32.toInt (q_449.1 2 31) ∧ Int32.toInt (q_449.1 2 31) ≤ 6 := hTq_449.1 2 31
                      have w_453 : Int32.toInt (q_449.1 2 31) = Int32.toInt (q_33.1 2 31) := by rw [eq_449, dui_o (by decide)]
                      have f_454 : -1 ≤ Int32.toInt (q_449.1 2 32) ∧ Int32.toInt (q_449.1 2 32) ≤ 5 := hTq_449.1 2 32
                      have k_455 : Int32.toInt (q_449.1 2 32) < Int32.toInt (q_449.1 2 31) := hTq_449.2.1.1
                      have w_456 : Int32.toInt (q_449.1 2 32) = Int32.toInt (q_33.1 2 32) := by rw [eq_449, dui_o (by decide)]
                      exact hk_31 (q_449, (q.1 0 13), (x2_35 + 0), (x3_36 + 2)) (show (TS q_449) ∧ (dFr [2] [6] q_29 q_449) ∧ ((q.1 0 13) = (q.1 0 13)) ∧ (0 ≤ Int32.toInt (x3_36 + 2)) ∧ (Int32.toInt (x3_36 + 2) ≤ 402) ∧ (Int32.toInt (q_449.1 2 31) = Int32.toInt (q_29.1 2 31)) ∧ (Int32.toInt (q_449.1 2 32) = Int32.toInt (q_29.1 2 32)) from ⟨hTq_449, (by rw [eq_449]; exact (((dFr.rf : dFr [2] [6] q_29 q_29).t a_38 (by decide) (by decide)) : dFr [2] [6] q_29 q_33).f (by decide)), rfl, by omega, by omega, by omega, by omega⟩) (show (402 - Int32.toInt (x3_36 + 2)).toNat < (402 - Int32.toInt x3_36).toNat by omega)
                  · unfold zX10_row_129
                    refine dOk_eq (A := 1) (B := 0) (by decide) (by decide) (fun c_457z c_457 => ?_) (fun c_458z c_458 => ?_)
                    · unfold zX10_row_146
                      refine dOk_L (fun q_460 eq_460 => ?_)
                      try have t_461 : Int32.toInt (q_33.1 0 6 + 1) = Int32.toInt (q_33.1 0 6) + 1 := ti_add rfl (by decide) (by omega) (by omega)
                      have hTq_460 : TS q_460 := by rw [eq_460]; exact ts_f a_37 (ti_rg _).1 (ti_rg _).2
                      have hFq_460 : dFr [1, 2] [0, 6, 13, 32] q q_460 := by rw [eq_460]; exact hFq_33.f (by decide)
                      try have t_462 : Int32.toInt (x2_35 + 1) = Int32.toInt x2_35 + 1 := ti_add rfl (by decide) (by omega) (by omega)
                      have f_463 : 0 ≤ Int32.toInt (q_460.1 2 31) ∧ Int32.toInt (q_460.1 2 31) ≤ 6 := hTq_460.1 2 31
                      have w_464 : Int32.toInt (q_460.1 2 31) = Int32.toInt (q_33.1 2 31) := by rw [eq_460, dui_o (by decide)]
                      have f_465 : -1 ≤ Int32.toInt (q_460.1 2 32) ∧ Int32.toInt (q_460.1 2 32) ≤ 5 := hTq_460.1 2 32
                      have k_466 : Int32.toInt (q_460.1 2 32) < Int32.toInt (q_460.1 2 31) := hTq_460.2.1.1
                      have w_467 : Int32.toInt (q_460.1 2 32) = Int32.toInt (q_33.1 2 32) := by rw [eq_460, dui_o (by decide)]
                      exact hk_31 (q_460, (q.1 0 13), (x2_35 + 1), (x3_36 + 2)) (show (TS q_460) ∧ (dFr [2] [6] q_29 q_460) ∧ ((q.1 0 13) = (q.1 0 13)) ∧ (0 ≤ Int32.toInt (x3_36 + 2)) ∧ (Int32.toInt (x3_36 + 2) ≤ 402) ∧ (Int32.toInt (q_460.1 2 31) = Int32.toInt (q_29.1 2 31)) ∧ (Int32.toInt (q_460.1 2 32) = Int32.toInt (q_29.1 2 32)) from ⟨hTq_460, (by rw [eq_460]; exact (((dFr.rf : dFr [2] [6] q_29 q_29).t a_38 (by decide) (by decide)) : dFr [2] [6] q_29 q_33).f (by decide)), rfl, by omega, by omega, by omega, by omega⟩) (show (402 - Int32.toInt (x3_36 + 2)).toNat < (402 - Int32.toInt x3_36).toNat by omega)
                    · unfold zX10_row_146
                      refine dOk_L (fun q_468 eq_468 => ?_)
                      try have t_469 : Int32.toInt (q_33.1 0 6 + 0) = Int32.toInt (q_33.1 0 6) + 0 := ti_add rfl (by decide) (by omega) (by omega)
                      have hTq_468 : TS q_468 := by rw [eq_468]; exact ts_f a_37 (ti_rg _).1 (ti_rg _).2
                      have hFq_468 : dFr [1, 2] [0, 6, 13, 32] q q_468 := by rw [eq_468]; exact hFq_33.f (by decide)
                      try have t_470 : Int32.toInt (x2_35 + 1) = Int32.toInt x2_35 + 1 := ti_add rfl (by decide) (by omega) (by omega)
                      have f_471 : 0 ≤ Int32.toInt (q_468.1 2 31) ∧ Int32.toInt (q_468.1 2 31) ≤ 6 := hTq_468.1 2 31
                      have w_472 : Int32.toInt (q_468.1 2 31) = Int32.toInt (q_33.1 2 31) := by rw [eq_468, dui_o (by decide)]
                      have f_473 : -1 ≤ Int32.toInt (q_468.1 2 32) ∧ Int32.toInt (q_468.1 2 32) ≤ 5 := hTq_468.1 2 32
                      have k_474 : Int32.toInt (q_468.1 2 32) < Int32.toInt (q_468.1 2 31) := hTq_468.2.1.1
                      have w_475 : Int32.toInt (q_468.1 2 32) = Int32.toInt (q_33.1 2 32) := by rw [eq_468, dui_o (by decide)]
                      exact hk_31 (q_468, (q.1 0 13), (x2_35 + 1), (x3_36 + 2)) (show (TS q_468) ∧ (dFr [2] [6] q_29 q_468) ∧ ((q.1 0 13) = (q.1 0 13)) ∧ (0 ≤ Int32.toInt (x3_36 + 2)) ∧ (Int32.toInt (x3_36 + 2) ≤ 402) ∧ (Int32.toInt (q_468.1 2 31) = Int32.toInt (q_29.1 2 31)) ∧ (Int32.toInt (q_468.1 2 32) = Int32.toInt (q_29.1 2 32)) from ⟨hTq_468, (by rw [eq_468]; exact (((dFr.rf : dFr [2] [6] q_29 q_29).t a_38 (by decide) (by decide)) : dFr [2] [6] q_29 q_33).f (by decide)), rfl, by omega, by omega, by omega, by omega⟩) (show (402 - Int32.toInt (x3_36 + 2)).toNat < (402 - Int32.toInt x3_36).toNat by omega)
                · refine dOk_G (dg_ok (show 0 ≤ Int32.toInt x3_36 by omega) (show Int32.toInt x3_36 < ((400 : Nat) : Int) by omega)) ?_
                  refine dOk_L (fun v_476 ev_476 => ?_)
                  have w_477 : Int32.toInt v_476 = Int32.toInt v_197 := by rw [ev_476, ev_197]
                  refine dOk_G (dg_ok (show 0 ≤ Int32.toInt (x3_36 + 1) by omega) (show Int32.toInt (x3_36 + 1) < ((400 : Nat) : Int) by omega)) ?_
                  refine dOk_L (fun v_478 ev_478 => ?_)
                  have w_479 : Int32.toInt v_478 = Int32.toInt v_311 := by rw [ev_478, ev_311]
                  refine dOk_V (ok_adds q_33 v_476 v_478 a_37 (show Int32.toInt (q_33.1 2 29) < 6 by omega) (show 0 ≤ Int32.toInt v_476 ∧ Int32.toInt v_476 ≤ 5 by omega) (show 0 ≤ Int32.toInt v_478 ∧ Int32.toInt v_478 ≤ 1 by omega)) (fun q_480 h_481 => ?_)
                  replace h_481 : (TS q_480) ∧ (dFr [2] [] q_33 q_480) ∧ (Int32.toInt (q_480.1 2 29) = Int32.toInt (q_33.1 2 29) + 1) ∧ (Int32.toInt (q_480.1 2 31) = Int32.toInt (q_33.1 2 31)) ∧ (Int32.toInt (q_480.1 2 32) = Int32.toInt (q_33.1 2 32)) := h_481
                  obtain ⟨i_482, i_483, i_484, i_485, i_486⟩ := h_481
                  have hFq_480 : dFr [1, 2] [0, 6, 13, 32] q q_480 := hFq_33.t i_483 (by decide) (by decide)
                  have f_487 : 0 ≤ Int32.toInt (q_480.1 2 29) ∧ Int32.toInt (q_480.1 2 29) ≤ 6 := i_482.1 2 29
                  have f_488 : 0 ≤ Int32.toInt (q_480.1 2 31) ∧ Int32.toInt (q_480.1 2 31) ≤ 6 := i_482.1 2 31
                  have f_489 : -1 ≤ Int32.toInt (q_480.1 2 32) ∧ Int32.toInt (q_480.1 2 32) ≤ 5 := i_482.1 2 32
                  have k_490 : Int32.toInt (q_480.1 2 32) < Int32.toInt (q_480.1 2 31) := i_482.2.1.1
                  unfold zX10_row_118
                  refine dOk_eq (A := 1) (B := 0) (by decide) (by decide) (fun c_491z c_491 => ?_) (fun c_492z c_492 => ?_)
                  · unfold zX10_row_129
                    refine dOk_eq (A := 1) (B := 0) (by decide) (by decide) (fun c_494z c_494 => ?_) (fun c_495z c_495 => ?_)
                    · unfold zX10_row_146
                      refine dOk_L (fun q_497 eq_497 => ?_)
                      have w_498 : Int32.toInt (q_480.1 0 6) = Int32.toInt (q_33.1 0 6) := by rw [i_483.2 6 (by decide)]
                      try have t_499 : Int32.toInt (q_480.1 0 6 + 1) = Int32.toInt (q_480.1 0 6) + 1 := ti_add rfl (by decide) (by omega) (by omega)
                      have hTq_497 : TS q_497 := by rw [eq_497]; exact ts_f i_482 (ti_rg _).1 (ti_rg _).2
                      have hFq_497 : dFr [1, 2] [0, 6, 13, 32] q q_497 := by rw [eq_497]; exact hFq_480.f (by decide)
                      try have t_500 : Int32.toInt (x2_35 + 0) = Int32.toInt x2_35 + 0 := ti_add rfl (by decide) (by omega) (by omega)
                      have f_501 : 0 ≤ Int32.toInt (q_497.1 2 31) ∧ Int32.toInt (q_497.1 2 31) ≤ 6 := hTq_497.1 2 31
                      have w_502 : Int32.toInt (q_497.1 2 31) = Int32.toInt (q_480.1 2 31) := by rw [eq_497, dui_o (by decide)]
                      have f_503 : -1 ≤ Int32.toInt (q_497.1 2 32) ∧ Int32.toInt (q_497.1 2 32) ≤ 5 := hTq_497.1 2 32
                      have k_504 : Int32.toInt (q_497.1 2 32) < Int32.toInt (q_497.1 2 31) := hTq_497.2.1.1
                      have w_505 : Int32.toInt (q_497.1 2 32) = Int32.toInt (q_480.1 2 32) := by rw [eq_497, dui_o (by decide)]
                      exact hk_31 (q_497, (q.1 0 13), (x2_35 + 0), (x3_36 + 2)) (show (TS q_497) ∧ (dFr [2] [6] q_29 q_497) ∧ ((q.1 0 13) = (q.1 0 13)) ∧ (0 ≤ Int32.toInt (x3_36 + 2)) ∧ (Int32.toInt (x3_36 + 2) ≤ 402) ∧ (Int32.toInt (q_497.1 2 31) = Int32.toInt (q_29.1 2 31)) ∧ (Int32.toInt (q_497.1 2 32) = Int32.toInt (q_29.1 2 32)) from ⟨hTq_497, (by rw [eq_497]; exact (((((dFr.rf : dFr [2] [6] q_29 q_29).t a_38 (by decide) (by decide)) : dFr [2] [6] q_29 q_33).t i_483 (by decide) (by decide)) : dFr [2] [6] q_29 q_480).f (by decide)), rfl, by omega, by omega, by omega, by omega⟩) (show (402 - Int32.toInt (x3_36 + 2)).toNat < (402 - Int32.toInt x3_36).toNat by omega)
                    · unfold zX10_row_146
                      refine dOk_L (fun q_506 eq_506 => ?_)
                      have w_507 : Int32.toInt (q_480.1 0 6) = Int32.toInt (q_33.1 0 6) := by rw [i_483.2 6 (by decide)]
                      try have t_508 : Int32.toInt (q_480.1 0 6 + 0) = Int32.toInt (q_480.1 0 6) + 0 := ti_add rfl (by decide) (by omega) (by omega)
                      have hTq_506 : TS q_506 := by rw [eq_506]; exact ts_f i_482 (ti_rg _).1 (ti_rg _).2
                      have hFq_506 : dFr [1, 2] [0, 6, 13, 32] q q_506 := by rw [eq_506]; exact hFq_480.f (by decide)
                      try have t_509 : Int32.toInt (x2_35 + 0) = Int32.toInt x2_35 + 0 := ti_add rfl (by decide) (by omega) (by omega)
                      have f_510 : 0 ≤ Int32.toInt (q_506.1 2 31) ∧ Int32.toInt (q_506.1 2 31) ≤ 6 := hTq_506.1 2 31
                      have w_511 : Int32.toInt (q_506.1 2 31) = Int32.toInt (q_480.1 2 31) := by rw [eq_506, dui_o (by decide)]
                      have f_512 : -1 ≤ Int32.toInt (q_506.1 2 32) ∧ Int32.toInt (q_506.1 2 32) ≤ 5 := hTq_506.1 2 32
                      have k_513 : Int32.toInt (q_506.1 2 32) < Int32.toInt (q_506.1 2 31) := hTq_506.2.1.1
                      have w_514 : Int32.toInt (q_506.1 2 32) = Int32.toInt (q_480.1 2 32) := by rw [eq_506, dui_o (by decide)]
                      exact hk_31 (q_506, (q.1 0 13), (x2_35 + 0), (x3_36 + 2)) (show (TS q_506) ∧ (dFr [2] [6] q_29 q_506) ∧ ((q.1 0 13) = (q.1 0 13)) ∧ (0 ≤ Int32.toInt (x3_36 + 2)) ∧ (Int32.toInt (x3_36 + 2) ≤ 402) ∧ (Int32.toInt (q_506.1 2 31) = Int32.toInt (q_29.1 2 31)) ∧ (Int32.toInt (q_506.1 2 32) = Int32.toInt (q_29.1 2 32)) from ⟨hTq_506, (by rw [eq_506]; exact (((((dFr.rf : dFr [2] [6] q_29 q_29).t a_38 (by decide) (by decide)) : dFr [2] [6] q_29 q_33).t i_483 (by decide) (by decide)) : dFr [2] [6] q_29 q_480).f (by decide)), rfl, by omega, by omega, by omega, by omega⟩) (show (402 - Int32.toInt (x3_36 + 2)).toNat < (402 - Int32.toInt x3_36).toNat by omega)
                  · unfold zX10_row_129
                    refine dOk_eq (A := 1) (B := 0) (by decide) (by decide) (fun c_515z c_515 => ?_) (fun c_516z c_516 => ?_)
                    · unfold zX10_row_146
                      refine dOk_L (fun q_518 eq_518 => ?_)
                      have w_519 : Int32.toInt (q_480.1 0 6) = Int32.toInt (q_33.1 0 6) := by rw [i_483.2 6 (by decide)]
                      try have t_520 : Int32.toInt (q_480.1 0 6 + 1) = Int32.toInt (q_480.1 0 6) + 1 := ti_add rfl (by decide) (by omega) (by omega)
                      have hTq_518 : TS q_518 := by rw [eq_518]; exact ts_f i_482 (ti_rg _).1 (ti_rg _).2
                      have hFq_518 : dFr [1, 2] [0, 6, 13, 32] q q_518 := by rw [eq_518]; exact hFq_480.f (by decide)
                      try have t_521 : Int32.toInt (x2_35 + 1) = Int32.toInt x2_35 + 1 := ti_add rfl (by decide) (by omega) (by omega)
                      have f_522 : 0 ≤ Int32.toInt (q_518.1 2 31) ∧ Int32.toInt (q_518.1 2 31) ≤ 6 := hTq_518.1 2 31
                      have w_523 : Int32.toInt (q_518.1 2 31) = Int32.toInt (q_480.1 2 31) := by rw [eq_518, dui_o (by decide)]
                      have f_524 : -1 ≤ Int32.toInt (q_518.1 2 32) ∧ Int32.toInt (q_518.1 2 32) ≤ 5 := hTq_518.1 2 32
                      have k_525 : Int32.toInt (q_518.1 2 32) < Int32.toInt (q_518.1 2 31) := hTq_518.2.1.1
                      have w_526 : Int32.toInt (q_518.1 2 32) = Int32.toInt (q_480.1 2 32) := by rw [eq_518, dui_o (by decide)]
                      exact hk_31 (q_518, (q.1 0 13), (x2_35 + 1), (x3_36 + 2)) (show (TS q_518) ∧ (dFr [2] [6] q_29 q_518) ∧ ((q.1 0 13) = (q.1 0 13)) ∧ (0 ≤ Int32.toInt (x3_36 + 2)) ∧ (Int32.toInt (x3_36 + 2) ≤ 402) ∧ (Int32.toInt (q_518.1 2 31) = Int32.toInt (q_29.1 2 31)) ∧ (Int32.toInt (q_518.1 2 32) = Int32.toInt (q_29.1 2 32)) from ⟨hTq_518, (by rw [eq_518]; exact (((((dFr.rf : dFr [2] [6] q_29 q_29).t a_38 (by decide) (by decide)) : dFr [2] [6] q_29 q_33).t i_483 (by decide) (by decide)) : dFr [2] [6] q_29 q_480).f (by decide)), rfl, by omega, by omega, by omega, by omega⟩) (show (402 - Int32.toInt (x3_36 + 2)).toNat < (402 - Int32.toInt x3_36).toNat by omega)
                    · unfold zX10_row_146
                      refine dOk_L (fun q_527 eq_527 => ?_)
                      have w_528 : Int32.toInt (q_480.1 0 6) = Int32.toInt (q_33.1 0 6) := by rw [i_483.2 6 (by decide)]
                      try have t_529 : Int32.toInt (q_480.1 0 6 + 0) = Int32.toInt (q_480.1 0 6) + 0 := ti_add rfl (by decide) (by omega) (by omega)
                      have hTq_527 : TS q_527 := by rw [eq_527]; exact ts_f i_482 (ti_rg _).1 (ti_rg _).2
                      have hFq_527 : dFr [1, 2] [0, 6, 13, 32] q q_527 := by rw [eq_527]; exact hFq_480.f (by decide)
                      try have t_530 : Int32.toInt (x2_35 + 1) = Int32.toInt x2_35 + 1 := ti_add rfl (by decide) (by omega) (by omega)
                      have f_531 : 0 ≤ Int32.toInt (q_527.1 2 31) ∧ Int32.toInt (q_527.1 2 31) ≤ 6 := hTq_527.1 2 31
                      have w_532 : Int32.toInt (q_527.1 2 31) = Int32.toInt (q_480.1 2 31) := by rw [eq_527, dui_o (by decide)]
                      have f_533 : -1 ≤ Int32.toInt (q_527.1 2 32) ∧ Int32.toInt (q_527.1 2 32) ≤ 5 := hTq_527.1 2 32
                      have k_534 : Int32.toInt (q_527.1 2 32) < Int32.toInt (q_527.1 2 31) := hTq_527.2.1.1
                      have w_535 : Int32.toInt (q_527.1 2 32) = Int32.toInt (q_480.1 2 32) := by rw [eq_527, dui_o (by decide)]
                      exact hk_31 (q_527, (q.1 0 13), (x2_35 + 1), (x3_36 + 2)) (show (TS q_527) ∧ (dFr [2] [6] q_29 q_527) ∧ ((q.1 0 13) = (q.1 0 13)) ∧ (0 ≤ Int32.toInt (x3_36 + 2)) ∧ (Int32.toInt (x3_36 + 2) ≤ 402) ∧ (Int32.toInt (q_527.1 2 31) = Int32.toInt (q_29.1 2 31)) ∧ (Int32.toInt (q_527.1 2 32) = Int32.toInt (q_29.1 2 32)) from ⟨hTq_527, (by rw [eq_527]; exact (((((dFr.rf : dFr [2] [6] q_29 q_29).t a_38 (by decide) (by decide)) : dFr [2] [6] q_29 q_33).t i_483 (by decide) (by decide)) : dFr [2] [6] q_29 q_480).f (by decide)), rfl, by omega, by omega, by omega, by omega⟩) (show (402 - Int32.toInt (x3_36 + 2)).toNat < (402 - Int32.toInt x3_36).toNat by omega)
              · unfold zX10_row_92
                unfold zX10_row_93
                refine dOk_eq (A := 0) (B := 0) (by decide) (by decide) (fun c_536z c_536 => ?_) (fun c_537z c_537 => ?_)
                · unfold zX10_row_118
                  refine dOk_eq (A := 0) (B := 0) (by decide) (by decide) (fun c_539z c_539 => ?_) (fun c_540z c_540 => ?_)
                  · unfold zX10_row_129
                    refine dOk_eq (A := 0) (B := 0) (by decide) (by decide) (fun c_542z c_542 => ?_) (fun c_543z c_543 => ?_)
                    · unfold zX10_row_146
                      refine dOk_L (fun q_545 eq_545 => ?_)
                      try have t_546 : Int32.toInt (q_33.1 0 6 + 1) = Int32.toInt (q_33.1 0 6) + 1 := ti_add rfl (by decide) (by omega) (by omega)
                      have hTq_545 : TS q_545 := by rw [eq_545]; exact ts_f a_37 (ti_rg _).1 (ti_rg _).2
                      have hFq_545 : dFr [1, 2] [0, 6, 13, 32] q q_545 := by rw [eq_545]; exact hFq_33.f (by decide)
                      try have t_547 : Int32.toInt (x2_35 + 0) = Int32.toInt x2_35 + 0 := ti_add rfl (by decide) (by omega) (by omega)
                      have f_548 : 0 ≤ Int32.toInt (q_545.1 2 31) ∧ Int32.toInt (q_545.1 2 31) ≤ 6 := hTq_545.1 2 31
                      have w_549 : Int32.toInt (q_545.1 2 31) = Int32.toInt (q_33.1 2 31) := by rw [eq_545, dui_o (by decide)]
                      have f_550 : -1 ≤ Int32.toInt (q_545.1 2 32) ∧ Int32.toInt (q_545.1 2 32) ≤ 5 := hTq_545.1 2 32
                      have k_551 : Int32.toInt (q_545.1 2 32) < Int32.toInt (q_545.1 2 31) := hTq_545.2.1.1
                      have w_552 : Int32.toInt (q_545.1 2 32) = Int32.toInt (q_33.1 2 32) := by rw [eq_545, dui_o (by decide)]
                      exact hk_31 (q_545, (q.1 0 13), (x2_35 + 0), (x3_36 + 2)) (show (TS q_545) ∧ (dFr [2] [6] q_29 q_545) ∧ ((q.1 0 13) = (q.1 0 13)) ∧ (0 ≤ Int32.toInt (x3_36 + 2)) ∧ (Int32.toInt (x3_36 + 2) ≤ 402) ∧ (Int32.toInt (q_545.1 2 31) = Int32.toInt (q_29.1 2 31)) ∧ (Int32.toInt (q_545.1 2 32) = Int32.toInt (q_29.1 2 32)) from ⟨hTq_545, (by rw [eq_545]; exact (((dFr.rf : dFr [2] [6] q_29 q_29).t a_38 (by decide) (by decide)) : dFr [2] [6] q_29 q_33).f (by decide)), rfl, by omega, by omega, by omega, by omega⟩) (show (402 - Int32.toInt (x3_36 + 2)).toNat < (402 - Int32.toInt x3_36).toNat by omega)
                    · unfold zX10_row_146
                      refine dOk_L (fun q_553 eq_553 => ?_)
                      try have t_554 : Int32.toInt (q_33.1 0 6 + 0) = Int32.toInt (q_33.1 0 6) + 0 := ti_add rfl (by decide) (by omega) (by omega)
                      have hTq_553 : TS q_553 := by rw [eq_553]; exact ts_f a_37 (ti_rg _).1 (ti_rg _).2
                      have hFq_553 : dFr [1, 2] [0, 6, 13, 32] q q_553 := by rw [eq_553]; exact hFq_33.f (by decide)
                      try have t_555 : Int32.toInt (x2_35 + 0) = Int32.toInt x2_35 + 0 := ti_add rfl (by decide) (by omega) (by omega)
                      have f_556 : 0 ≤ Int32.toInt (q_553.1 2 31) ∧ Int32.toInt (q_553.1 2 31) ≤ 6 := hTq_553.1 2 31
                      have w_557 : Int32.toInt (q_553.1 2 31) = Int32.toInt (q_33.1 2 31) := by rw [eq_553, dui_o (by decide)]
                      have f_558 : -1 ≤ Int32.toInt (q_553.1 2 32) ∧ Int32.toInt (q_553.1 2 32) ≤ 5 := hTq_553.1 2 32
                      have k_559 : Int32.toInt (q_553.1 2 32) < Int32.toInt (q_553.1 2 31) := hTq_553.2.1.1
                      have w_560 : Int32.toInt (q_553.1 2 32) = Int32.toInt (q_33.1 2 32) := by rw [eq_553, dui_o (by decide)]
                      exact hk_31 (q_553, (q.1 0 13), (x2_35 + 0), (x3_36 + 2)) (show (TS q_553) ∧ (dFr [2] [6] q_29 q_553) ∧ ((q.1 0 13) = (q.1 0 13)) ∧ (0 ≤ Int32.toInt (x3_36 + 2)) ∧ (Int32.toInt (x3_36 + 2) ≤ 402) ∧ (Int32.toInt (q_553.1 2 31) = Int32.toInt (q_29.1 2 31)) ∧ (Int32.toInt (q_553.1 2 32) = Int32.toInt (q_29.1 2 32)) from ⟨hTq_553, (by rw [eq_553]; exact (((dFr.rf : dFr [2] [6] q_29 q_29).t a_38 (by decide) (by decide)) : dFr [2] [6] q_29 q_33).f (by decide)), rfl, by omega, by omega, by omega, by omega⟩) (show (402 - Int32.toInt (x3_36 + 2)).toNat < (402 - Int32.toInt x3_36).toNat by omega)
                  · unfold zX10_row_129
                    refine dOk_eq (A := 0) (B := 0) (by decide) (by decide) (fun c_561z c_561 => ?_) (fun c_562z c_562 => ?_)
                    · unfold zX10_row_146
                      refine dOk_L (fun q_564 eq_564 => ?_)
                      try have t_565 : Int32.toInt (q_33.1 0 6 + 1) = Int32.toInt (q_33.1 0 6) + 1 := ti_add rfl (by decide) (by omega) (by omega)
                      have hTq_564 : TS q_564 := by rw [eq_564]; exact ts_f a_37 (ti_rg _).1 (ti_rg _).2
                      have hFq_564 : dFr [1, 2] [0, 6, 13, 32] q q_564 := by rw [eq_564]; exact hFq_33.f (by decide)
                      try have t_566 : Int32.toInt (x2_35 + 1) = Int32.toInt x2_35 + 1 := ti_add rfl (by decide) (by omega) (by omega)
                      have f_567 : 0 ≤ Int32.toInt (q_564.1 2 31) ∧ Int32.toInt (q_564.1 2 31) ≤ 6 := hTq_564.1 2 31
                      have w_568 : Int32.toInt (q_564.1 2 31) = Int32.toInt (q_33.1 2 31) := by rw [eq_564, dui_o (by decide)]
                      have f_569 : -1 ≤ Int32.toInt (q_564.1 2 32) ∧ Int32.toInt (q_564.1 2 32) ≤ 5 := hTq_564.1 2 32
                      have k_570 : Int32.toInt (q_564.1 2 32) < Int32.toInt (q_564.1 2 31) := hTq_564.2.1.1
                      have w_571 : Int32.toInt (q_564.1 2 32) = Int32.toInt (q_33.1 2 32) := by rw [eq_564, dui_o (by decide)]
                      exact hk_31 (q_564, (q.1 0 13), (x2_35 + 1), (x3_36 + 2)) (show (TS q_564) ∧ (dFr [2] [6] q_29 q_564) ∧ ((q.1 0 13) = (q.1 0 13)) ∧ (0 ≤ Int32.toInt (x3_36 + 2)) ∧ (Int32.toInt (x3_36 + 2) ≤ 402) ∧ (Int32.toInt (q_564.1 2 31) = Int32.toInt (q_29.1 2 31)) ∧ (Int32.toInt (q_564.1 2 32) = Int32.toInt (q_29.1 2 32)) from ⟨hTq_564, (by rw [eq_564]; exact (((dFr.rf : dFr [2] [6] q_29 q_29).t a_38 (by decide) (by decide)) : dFr [2] [6] q_29 q_33).f (by decide)), rfl, by omega, by omega, by omega, by omega⟩) (show (402 - Int32.toInt (x3_36 + 2)).toNat < (402 - Int32.toInt x3_36).toNat by omega)
                    · unfold zX10_row_146
                      refine dOk_L (fun q_572 eq_572 => ?_)
                      try have t_573 : Int32.toInt (q_33.1 0 6 + 0) = Int32.toInt (q_33.1 0 6) + 0 := ti_add rfl (by decide) (by omega) (by omega)
                      have hTq_572 : TS q_572 := by rw [eq_572]; exact ts_f a_37 (ti_rg _).1 (ti_rg _).2
                      have hFq_572 : dFr [1, 2] [0, 6, 13, 32] q q_572 := by rw [eq_572]; exact hFq_33.f (by decide)
                      try have t_574 : Int32.toInt (x2_35 + 1) = Int32.toInt x2_35 + 1 := ti_add rfl (by decide) (by omega) (by omega)
                      have f_575 : 0 ≤ Int32.toInt (q_572.1 2 31) ∧ Int32.toInt (q_572.1 2 31) ≤ 6 := hTq_572.1 2 31
                      have w_576 : Int32.toInt (q_572.1 2 31) = Int32.toInt (q_33.1 2 31) := by rw [eq_572, dui_o (by decide)]
                      have f_577 : -1 ≤ Int32.toInt (q_572.1 2 32) ∧ Int32.toInt (q_572.1 2 32) ≤ 5 := hTq_572.1 2 32
                      have k_578 : Int32.toInt (q_572.1 2 32) < Int32.toInt (q_572.1 2 31) := hTq_572.2.1.1
                      have w_579 : Int32.toInt (q_572.1 2 32) = Int32.toInt (q_33.1 2 32) := by rw [eq_572, dui_o (by decide)]
                      exact hk_31 (q_572, (q.1 0 13), (x2_35 + 1), (x3_36 + 2)) (show (TS q_572) ∧ (dFr [2] [6] q_29 q_572) ∧ ((q.1 0 13) = (q.1 0 13)) ∧ (0 ≤ Int32.toInt (x3_36 + 2)) ∧ (Int32.toInt (x3_36 + 2) ≤ 402) ∧ (Int32.toInt (q_572.1 2 31) = Int32.toInt (q_29.1 2 31)) ∧ (Int32.toInt (q_572.1 2 32) = Int32.toInt (q_29.1 2 32)) from ⟨hTq_572, (by rw [eq_572]; exact (((dFr.rf : dFr [2] [6] q_29 q_29).t a_38 (by decide) (by decide)) : dFr [2] [6] q_29 q_33).f (by decide)), rfl, by omega, by omega, by omega, by omega⟩) (show (402 - Int32.toInt (x3_36 + 2)).toNat < (402 - Int32.toInt x3_36).toNat by omega)
                · refine dOk_G (dg_ok (show 0 ≤ Int32.toInt x3_36 by omega) (show Int32.toInt x3_36 < ((400 : Nat) : Int) by omega)) ?_
                  refine dOk_L (fun v_580 ev_580 => ?_)
                  have w_581 : Int32.toInt v_580 = Int32.toInt v_197 := by rw [ev_580, ev_197]
                  refine dOk_G (dg_ok (show 0 ≤ Int32.toInt (x3_36 + 1) by omega) (show Int32.toInt (x3_36 + 1) < ((400 : Nat) : Int) by omega)) ?_
                  refine dOk_L (fun v_582 ev_582 => ?_)
                  have w_583 : Int32.toInt v_582 = Int32.toInt v_311 := by rw [ev_582, ev_311]
                  refine dOk_V (ok_adds q_33 v_580 v_582 a_37 (show Int32.toInt (q_33.1 2 29) < 6 by omega) (show 0 ≤ Int32.toInt v_580 ∧ Int32.toInt v_580 ≤ 5 by omega) (show 0 ≤ Int32.toInt v_582 ∧ Int32.toInt v_582 ≤ 1 by omega)) (fun q_584 h_585 => ?_)
                  replace h_585 : (TS q_584) ∧ (dFr [2] [] q_33 q_584) ∧ (Int32.toInt (q_584.1 2 29) = Int32.toInt (q_33.1 2 29) + 1) ∧ (Int32.toInt (q_584.1 2 31) = Int32.toInt (q_33.1 2 31)) ∧ (Int32.toInt (q_584.1 2 32) = Int32.toInt (q_33.1 2 32)) := h_585
                  obtain ⟨i_586, i_587, i_588, i_589, i_590⟩ := h_585
                  have hFq_584 : dFr [1, 2] [0, 6, 13, 32] q q_584 := hFq_33.t i_587 (by decide) (by decide)
                  have f_591 : 0 ≤ Int32.toInt (q_584.1 2 29) ∧ Int32.toInt (q_584.1 2 29) ≤ 6 := i_586.1 2 29
                  have f_592 : 0 ≤ Int32.toInt (q_584.1 2 31) ∧ Int32.toInt (q_584.1 2 31) ≤ 6 := i_586.1 2 31
                  have f_593 : -1 ≤ Int32.toInt (q_584.1 2 32) ∧ Int32.toInt (q_584.1 2 32) ≤ 5 := i_586.1 2 32
                  have k_594 : Int32.toInt (q_584.1 2 32) < Int32.toInt (q_584.1 2 31) := i_586.2.1.1
                  unfold zX10_row_118
                  refine dOk_eq (A := 0) (B := 0) (by decide) (by decide) (fun c_595z c_595 => ?_) (fun c_596z c_596 => ?_)
                  · unfold zX10_row_129
                    refine dOk_eq (A := 0) (B := 0) (by decide) (by decide) (fun c_598z c_598 => ?_) (fun c_599z c_599 => ?_)
                    · unfold zX10_row_146
                      refine dOk_L (fun q_601 eq_601 => ?_)
                      have w_602 : Int32.toInt (q_584.1 0 6) = Int32.toInt (q_33.1 0 6) := by rw [i_587.2 6 (by decide)]
                      try have t_603 : Int32.toInt (q_584.1 0 6 + 1) = Int32.toInt (q_584.1 0 6) + 1 := ti_add rfl (by decide) (by omega) (by omega)
                      have hTq_601 : TS q_601 := by rw [eq_601]; exact ts_f i_586 (ti_rg _).1 (ti_rg _).2
                      have hFq_601 : dFr [1, 2] [0, 6, 13, 32] q q_601 := by rw [eq_601]; exact hFq_584.f (by decide)
                      try have t_604 : Int32.toInt (x2_35 + 0) = Int32.toInt x2_35 + 0 := ti_add rfl (by decide) (by omega) (by omega)
                      have f_605 : 0 ≤ Int32.toInt (q_601.1 2 31) ∧ Int32.toInt (q_601.1 2 31) ≤ 6 := hTq_601.1 2 31
                      have w_606 : Int32.toInt (q_601.1 2 31) = Int32.toInt (q_584.1 2 31) := by rw [eq_601, dui_o (by decide)]
                      have f_607 : -1 ≤ Int32.toInt (q_601.1 2 32) ∧ Int32.toInt (q_601.1 2 32) ≤ 5 := hTq_601.1 2 32
                      have k_608 : Int32.toInt (q_601.1 2 32) < Int32.toInt (q_601.1 2 31) := hTq_601.2.1.1
                      have w_609 : Int32.toInt (q_601.1 2 32) = Int32.toInt (q_584.1 2 32) := by rw [eq_601, dui_o (by decide)]
                      exact hk_31 (q_601, (q.1 0 13), (x2_35 + 0), (x3_36 + 2)) (show (TS q_601) ∧ (dFr [2] [6] q_29 q_601) ∧ ((q.1 0 13) = (q.1 0 13)) ∧ (0 ≤ Int32.toInt (x3_36 + 2)) ∧ (Int32.toInt (x3_36 + 2) ≤ 402) ∧ (Int32.toInt (q_601.1 2 31) = Int32.toInt (q_29.1 2 31)) ∧ (Int32.toInt (q_601.1 2 32) = Int32.toInt (q_29.1 2 32)) from ⟨hTq_601, (by rw [eq_601]; exact (((((dFr.rf : dFr [2] [6] q_29 q_29).t a_38 (by decide) (by decide)) : dFr [2] [6] q_29 q_33).t i_587 (by decide) (by decide)) : dFr [2] [6] q_29 q_584).f (by decide)), rfl, by omega, by omega, by omega, by omega⟩) (show (402 - Int32.toInt (x3_36 + 2)).toNat < (402 - Int32.toInt x3_36).toNat by omega)
                    · unfold zX10_row_146
                      refine dOk_L (fun q_610 eq_610 => ?_)
                      have w_611 : Int32.toInt (q_584.1 0 6) = Int32.toInt (q_33.1 0 6) := by rw [i_587.2 6 (by decide)]
                      try have t_612 : Int32.toInt (q_584.1 0 6 + 0) = Int32.toInt (q_584.1 0 6) + 0 := ti_add rfl (by decide) (by omega) (by omega)
                      have hTq_610 : TS q_610 := by rw [eq_610]; exact ts_f i_586 (ti_rg _).1 (ti_rg _).2
                      have hFq_610 : dFr [1, 2] [0, 6, 13, 32] q q_610 := by rw [eq_610]; exact hFq_584.f (by decide)
                      try have t_613 : Int32.toInt (x2_35 + 0) = Int32.toInt x2_35 + 0 := ti_add rfl (by decide) (by omega) (by omega)
                      have f_614 : 0 ≤ Int32.toInt (q_610.1 2 31) ∧ Int32.toInt (q_610.1 2 31) ≤ 6 := hTq_610.1 2 31
                      have w_615 : Int32.toInt (q_610.1 2 31) = Int32.toInt (q_584.1 2 31) := by rw [eq_610, dui_o (by decide)]
                      have f_616 : -1 ≤ Int32.toInt (q_610.1 2 32) ∧ Int32.toInt (q_610.1 2 32) ≤ 5 := hTq_610.1 2 32
                      have k_617 : Int32.toInt (q_610.1 2 32) < Int32.toInt (q_610.1 2 31) := hTq_610.2.1.1
                      have w_618 : Int32.toInt (q_610.1 2 32) = Int32.toInt (q_584.1 2 32) := by rw [eq_610, dui_o (by decide)]
                      exact hk_31 (q_610, (q.1 0 13), (x2_35 + 0), (x3_36 + 2)) (show (TS q_610) ∧ (dFr [2] [6] q_29 q_610) ∧ ((q.1 0 13) = (q.1 0 13)) ∧ (0 ≤ Int32.toInt (x3_36 + 2)) ∧ (Int32.toInt (x3_36 + 2) ≤ 402) ∧ (Int32.toInt (q_610.1 2 31) = Int32.toInt (q_29.1 2 31)) ∧ (Int32.toInt (q_610.1 2 32) = Int32.toInt (q_29.1 2 32)) from ⟨hTq_610, (by rw [eq_610]; exact (((((dFr.rf : dFr [2] [6] q_29 q_29).t a_38 (by decide) (by decide)) : dFr [2] [6] q_29 q_33).t i_587 (by decide) (by decide)) : dFr [2] [6] q_29 q_584).f (by decide)), rfl, by omega, by omega, by omega, by omega⟩) (show (402 - Int32.toInt (x3_36 + 2)).toNat < (402 - Int32.toInt x3_36).toNat by omega)
                  · unfold zX10_row_129
                    refine dOk_eq (A := 0) (B := 0) (by decide) (by decide) (fun c_619z c_619 => ?_) (fun c_620z c_620 => ?_)
                    · unfold zX10_row_146
                      refine dOk_L (fun q_622 eq_622 => ?_)
                      have w_623 : Int32.toInt (q_584.1 0 6) = Int32.toInt (q_33.1 0 6) := by rw [i_587.2 6 (by decide)]
                      try have t_624 : Int32.toInt (q_584.1 0 6 + 1) = Int32.toInt (q_584.1 0 6) + 1 := ti_add rfl (by decide) (by omega) (by omega)
                      have hTq_622 : TS q_622 := by rw [eq_622]; exact ts_f i_586 (ti_rg _).1 (ti_rg _).2
                      have hFq_622 : dFr [1, 2] [0, 6, 13, 32] q q_622 := by rw [eq_622]; exact hFq_584.f (by decide)
                      try have t_625 : Int32.toInt (x2_35 + 1) = Int32.toInt x2_35 + 1 := ti_add rfl (by decide) (by omega) (by omega)
                      have f_626 : 0 ≤ Int32.toInt (q_622.1 2 31) ∧ Int32.toInt (q_622.1 2 31) ≤ 6 := hTq_622.1 2 31
                      have w_627 : Int32.toInt (q_622.1 2 31) = Int32.toInt (q_584.1 2 31) := by rw [eq_622, dui_o (by decide)]
                      have f_628 : -1 ≤ Int32.toInt (q_622.1 2 32) ∧ Int32.toInt (q_622.1 2 32) ≤ 5 := hTq_622.1 2 32
                      have k_629 : Int32.toInt (q_622.1 2 32) < Int32.toInt (q_622.1 2 31) := hTq_622.2.1.1
                      have w_630 : Int32.toInt (q_622.1 2 32) = Int32.toInt (q_584.1 2 32) := by rw [eq_622, dui_o (by decide)]
                      exact hk_31 (q_622, (q.1 0 13), (x2_35 + 1), (x3_36 + 2)) (show (TS q_622) ∧ (dFr [2] [6] q_29 q_622) ∧ ((q.1 0 13) = (q.1 0 13)) ∧ (0 ≤ Int32.toInt (x3_36 + 2)) ∧ (Int32.toInt (x3_36 + 2) ≤ 402) ∧ (Int32.toInt (q_622.1 2 31) = Int32.toInt (q_29.1 2 31)) ∧ (Int32.toInt (q_622.1 2 32) = Int32.toInt (q_29.1 2 32)) from ⟨hTq_622, (by rw [eq_622]; exact (((((dFr.rf : dFr [2] [6] q_29 q_29).t a_38 (by decide) (by decide)) : dFr [2] [6] q_29 q_33).t i_587 (by decide) (by decide)) : dFr [2] [6] q_29 q_584).f (by decide)), rfl, by omega, by omega, by omega, by omega⟩) (show (402 - Int32.toInt (x3_36 + 2)).toNat < (402 - Int32.toInt x3_36).toNat by omega)
                    · unfold zX10_row_146
                      refine dOk_L (fun q_631 eq_631 => ?_)
                      have w_632 : Int32.toInt (q_584.1 0 6) = Int32.toInt (q_33.1 0 6) := by rw [i_587.2 6 (by decide)]
                      try have t_633 : Int32.toInt (q_584.1 0 6 + 0) = Int32.toInt (q_584.1 0 6) + 0 := ti_add rfl (by decide) (by omega) (by omega)
                      have hTq_631 : TS q_631 := by rw [eq_631]; exact ts_f i_586 (ti_rg _).1 (ti_rg _).2
                      have hFq_631 : dFr [1, 2] [0, 6, 13, 32] q q_631 := by rw [eq_631]; exact hFq_584.f (by decide)
                      try have t_634 : Int32.toInt (x2_35 + 1) = Int32.toInt x2_35 + 1 := ti_add rfl (by decide) (by omega) (by omega)
                      have f_635 : 0 ≤ Int32.toInt (q_631.1 2 31) ∧ Int32.toInt (q_631.1 2 31) ≤ 6 := hTq_631.1 2 31
                      have w_636 : Int32.toInt (q_631.1 2 31) = Int32.toInt (q_584.1 2 31) := by rw [eq_631, dui_o (by decide)]
                      have f_637 : -1 ≤ Int32.toInt (q_631.1 2 32) ∧ Int32.toInt (q_631.1 2 32) ≤ 5 := hTq_631.1 2 32
                      have k_638 : Int32.toInt (q_631.1 2 32) < Int32.toInt (q_631.1 2 31) := hTq_631.2.1.1
                      have w_639 : Int32.toInt (q_631.1 2 32) = Int32.toInt (q_584.1 2 32) := by rw [eq_631, dui_o (by decide)]
                      exact hk_31 (q_631, (q.1 0 13), (x2_35 + 1), (x3_36 + 2)) (show (TS q_631) ∧ (dFr [2] [6] q_29 q_631) ∧ ((q.1 0 13) = (q.1 0 13)) ∧ (0 ≤ Int32.toInt (x3_36 + 2)) ∧ (Int32.toInt (x3_36 + 2) ≤ 402) ∧ (Int32.toInt (q_631.1 2 31) = Int32.toInt (q_29.1 2 31)) ∧ (Int32.toInt (q_631.1 2 32) = Int32.toInt (q_29.1 2 32)) from ⟨hTq_631, (by rw [eq_631]; exact (((((dFr.rf : dFr [2] [6] q_29 q_29).t a_38 (by decide) (by decide)) : dFr [2] [6] q_29 q_33).t i_587 (by decide) (by decide)) : dFr [2] [6] q_29 q_584).f (by decide)), rfl, by omega, by omega, by omega, by omega⟩) (show (402 - Int32.toInt (x3_36 + 2)).toNat < (402 - Int32.toInt x3_36).toNat by omega)
    · have f_640 : 0 ≤ Int32.toInt (q_29.1 2 31) ∧ Int32.toInt (q_29.1 2 31) ≤ 6 := hTq_29.1 2 31
      have f_641 : 0 ≤ Int32.toInt (q_1.1 2 31) ∧ Int32.toInt (q_1.1 2 31) ≤ 6 := hTq_1.1 2 31
      have f_642 : 0 ≤ Int32.toInt (q.1 2 31) ∧ Int32.toInt (q.1 2 31) ≤ 6 := hT.1 2 31
      have w_643 : Int32.toInt (q_1.1 2 31) = Int32.toInt (q.1 2 31) := by rw [eq_1, dui_o (by decide)]
      have w_644 : Int32.toInt (q_29.1 2 31) = Int32.toInt (q_1.1 2 31) := by rw [eq_29, dui_o (by decide)]
      have f_645 : -1 ≤ Int32.toInt (q_29.1 2 32) ∧ Int32.toInt (q_29.1 2 32) ≤ 5 := hTq_29.1 2 32
      have k_646 : Int32.toInt (q_29.1 2 32) < Int32.toInt (q_29.1 2 31) := hTq_29.2.1.1
      have f_647 : -1 ≤ Int32.toInt (q_1.1 2 32) ∧ Int32.toInt (q_1.1 2 32) ≤ 5 := hTq_1.1 2 32
      have k_648 : Int32.toInt (q_1.1 2 32) < Int32.toInt (q_1.1 2 31) := hTq_1.2.1.1
      have f_649 : -1 ≤ Int32.toInt (q.1 2 32) ∧ Int32.toInt (q.1 2 32) ≤ 5 := hT.1 2 32
      have k_650 : Int32.toInt (q.1 2 32) < Int32.toInt (q.1 2 31) := hT.2.1.1
      have w_651 : Int32.toInt (q_1.1 2 32) = Int32.toInt (q.1 2 32) := by rw [eq_1, dui_o (by decide)]
      have w_652 : Int32.toInt (q_29.1 2 32) = Int32.toInt (q_1.1 2 32) := by rw [eq_29, dui_o (by decide)]
      exact (show (TS q_29) ∧ (dFr [2] [6] q_29 q_29) ∧ ((q.1 0 13) = (q.1 0 13)) ∧ (0 ≤ (0 : Int)) ∧ ((0 : Int) ≤ 402) ∧ (Int32.toInt (q_29.1 2 31) = Int32.toInt (q_29.1 2 31)) ∧ (Int32.toInt (q_29.1 2 32) = Int32.toInt (q_29.1 2 32)) from ⟨hTq_29, dFr.rf, rfl, by omega, by omega, by omega, by omega⟩)
    · show (402 - (0 : Int)).toNat < 1000000000000
      omega
end
section
set_option maxHeartbeats 4000000 in
set_option maxRecDepth 100000 in
theorem ok_bricks (q : dS) (hT : TS q) : dOk (zX10_bricks q) (fun (o : Int32 × dS) => (o.2 = q)) := by
  unfold zX10_bricks
  exact dOk_some (show (q = q) from rfl)

set_option maxHeartbeats 4000000 in
set_option maxRecDepth 100000 in
theorem ok_fault (q : dS) (hT : TS q) : dOk (zX10_fault q) (fun (o : Int32 × dS) => (o.2 = q)) := by
  unfold zX10_fault
  exact dOk_some (show (q = q) from rfl)

set_option maxHeartbeats 4000000 in
set_option maxRecDepth 100000 in
theorem ok_stopped (q : dS) (hT : TS q) : dOk (zX10_stopped q) (fun (o : Int32 × dS) => (o.2 = q)) := by
  unfold zX10_stopped
  exact dOk_some (show (q = q) from rfl)

set_option maxHeartbeats 4000000 in
set_option maxRecDepth 100000 in
theorem ok_status (q : dS) (hT : TS q) : dOk (zX10_status q) (fun (o : Int32 × dS) => (o.2 = q)) := by
  unfold zX10_status
  exact dOk_some (show (q = q) from rfl)

set_option maxHeartbeats 4000000 in
set_option maxRecDepth 100000 in
theorem ok_feed (q : dS) (p1 : Int32) (p2 : Int32) (p3 : Int32) (p4 : Int32) (p5 : Int32) (hT : TS q) : dOk (zX10_feed q p1 p2 p3 p4 p5) (fun (o : Int32 × dS) => (TS o.2) ∧ (dFr [7, 8] [13] q o.2) ∧ ((Int32.toInt (q.1 0 13) ≤ 380 ∧ Int32.toInt (o.2.1 0 13) = Int32.toInt (q.1 0 13) + 20) ∨ (380 < Int32.toInt (q.1 0 13) ∧ Int32.toInt (o.2.1 0 13) = Int32.toInt (q.1 0 13)))) := by
  unfold zX10_feed
  have f_1 : 0 ≤ Int32.toInt (q.1 0 13) ∧ Int32.toInt (q.1 0 13) ≤ 400 := hT.1 0 13
  try have t_2 : Int32.toInt (q.1 0 13 + 20) = Int32.toInt (q.1 0 13) + 20 := ti_add rfl (by decide) (by omega) (by omega)
  refine dOk_le (A := Int32.toInt (q.1 0 13 + 20)) (B := 400) rfl (by decide) (fun c_3 => ?_) (fun c_4 => ?_)
  · refine dOk_L (fun q_5 eq_5 => ?_)
    have hTq_5 : TS q_5 := by rw [eq_5]; exact ts_any hT rfl
    have hFq_5 : dFr [7, 8] [13] q q_5 := by rw [eq_5]; exact (dFr.rf (q := q)).i (by decide) (by decide)
    refine dOk_L (fun q_6 eq_6 => ?_)
    have hTq_6 : TS q_6 := by rw [eq_6]; exact ts_any hTq_5 rfl
    have hFq_6 : dFr [7, 8] [13] q q_6 := by rw [eq_6]; exact hFq_5.i (by decide) (by decide)
    refine dOk_L (fun q_7 eq_7 => ?_)
    have hTq_7 : TS q_7 := by rw [eq_7]; exact ts_any hTq_6 rfl
    have hFq_7 : dFr [7, 8] [13] q q_7 := by rw [eq_7]; exact hFq_6.i (by decide) (by decide)
    refine dOk_L (fun q_8 eq_8 => ?_)
    have hTq_8 : TS q_8 := by rw [eq_8]; exact ts_any hTq_7 rfl
    have hFq_8 : dFr [7, 8] [13] q q_8 := by rw [eq_8]; exact hFq_7.i (by decide) (by decide)
    refine dOk_L (fun q_9 eq_9 => ?_)
    have hTq_9 : TS q_9 := by rw [eq_9]; exact ts_any hTq_8 rfl
    have hFq_9 : dFr [7, 8] [13] q q_9 := by rw [eq_9]; exact hFq_8.i (by decide) (by decide)
    unfold zX10_feed_55
    refine dFix_ok (fun (a : dS × Int32) => (TS a.1) ∧ (dFr [7] [] q_9 a.1) ∧ (0 ≤ Int32.toInt a.2) ∧ (Int32.toInt a.2 ≤ 20)) (fun (a : dS × Int32) => (20 - Int32.toInt a.2).toNat) ?_ _ ?_ _ (dF_gt ?_)
    · intro a ha k_11 hk_10
      obtain ⟨q_12, x6_13⟩ := a
      replace ha : (TS q_12) ∧ (dFr [7] [] q_9 q_12) ∧ (0 ≤ Int32.toInt x6_13) ∧ (Int32.toInt x6_13 ≤ 20) := ha
      obtain ⟨a_14, a_15, a_16, a_17⟩ := ha
      show dOk (zX10_feed_55b  (fun q x6 => k_11 (q, x6)) q_12 x6_13) _
      unfold zX10_feed_55b
      have hFq_12 : dFr [7, 8] [13] q q_12 := hFq_9.t a_15 (by decide) (by decide)
      refine dOk_le (A := 20) (B := Int32.toInt x6_13) (by decide) rfl (fun c_18 => ?_) (fun c_19 => ?_)
      · refine dOk_L (fun q_20 eq_20 => ?_)
        have f_21 : 0 ≤ Int32.toInt (q_12.1 0 13) ∧ Int32.toInt (q_12.1 0 13) ≤ 400 := a_14.1 0 13
        have f_22 : 0 ≤ Int32.toInt (q_9.1 0 13) ∧ Int32.toInt (q_9.1 0 13) ≤ 400 := hTq_9.1 0 13
        have f_23 : 0 ≤ Int32.toInt (q_8.1 0 13) ∧ Int32.toInt (q_8.1 0 13) ≤ 400 := hTq_8.1 0 13
        have f_24 : 0 ≤ Int32.toInt (q_7.1 0 13) ∧ Int32.toInt (q_7.1 0 13) ≤ 400 := hTq_7.1 0 13
        have f_25 : 0 ≤ Int32.toInt (q_6.1 0 13) ∧ Int32.toInt (q_6.1 0 13) ≤ 400 := hTq_6.1 0 13
        have f_26 : 0 ≤ Int32.toInt (q_5.1 0 13) ∧ Int32.toInt (q_5.1 0 13) ≤ 400 := hTq_5.1 0 13
        have w_27 : Int32.toInt (q_5.1 0 13) = Int32.toInt (q.1 0 13) := by rw [eq_5, dui_o (by decide)]
        have w_28 : Int32.toInt (q_6.1 0 13) = Int32.toInt (q_5.1 0 13) := by rw [eq_6, dui_o (by decide)]
        have w_29 : Int32.toInt (q_7.1 0 13) = Int32.toInt (q_6.1 0 13) := by rw [eq_7, dui_o (by decide)]
        have w_30 : Int32.toInt (q_8.1 0 13) = Int32.toInt (q_7.1 0 13) := by rw [eq_8, dui_o (by decide)]
        have w_31 : Int32.toInt (q_9.1 0 13) = Int32.toInt (q_8.1 0 13) := by rw [eq_9, dui_o (by decide)]
        have w_32 : Int32.toInt (q_12.1 0 13) = Int32.toInt (q_9.1 0 13) := by rw [a_15.2 13 (by decide)]
        try have t_33 : Int32.toInt (q_12.1 0 13 + 20) = Int32.toInt (q_12.1 0 13) + 20 := ti_add rfl (by decide) (by omega) (by omega)
        have hTq_20 : TS q_20 := by rw [eq_20]; exact ts_f a_14 (show 0 ≤ Int32.toInt (q_12.1 0 13 + 20) by omega) (show Int32.toInt (q_12.1 0 13 + 20) ≤ 400 by omega)
        have hFq_20 : dFr [7, 8] [13] q q_20 := by rw [eq_20]; exact hFq_12.f (by decide)
        have f_34 : 0 ≤ Int32.toInt (q_20.1 0 13) ∧ Int32.toInt (q_20.1 0 13) ≤ 400 := hTq_20.1 0 13
        have w_35 : Int32.toInt (q_20.1 0 13) = Int32.toInt (q_12.1 0 13 + 20) := by rw [eq_20, dui_e]
        exact dOk_some (show (TS q_20) ∧ (dFr [7, 8] [13] q q_20) ∧ ((Int32.toInt (q.1 0 13) ≤ 380 ∧ Int32.toInt (q_20.1 0 13) = Int32.toInt (q.1 0 13) + 20) ∨ (380 < Int32.toInt (q.1 0 13) ∧ Int32.toInt (q_20.1 0 13) = Int32.toInt (q.1 0 13))) from ⟨hTq_20, hFq_20, by omega⟩)
      · try have t_36 : Int32.toInt (x6_13 / 4) = Int32.toInt x6_13 / 4 := ti_div rfl (by decide) (by omega) (by omega)
        refine dOk_G (dg_ok (show 0 ≤ Int32.toInt (x6_13 / 4) by omega) (show Int32.toInt (x6_13 / 4) < ((5 : Nat) : Int) by omega)) ?_
        have n_37 : ((Int32.toNatClampNeg (x6_13 / 4) : Nat) : Int) = Int32.toInt (x6_13 / 4) := cl_eq (by omega)
        refine dOk_L (fun v_38 ev_38 => ?_)
        try have t_40 : Int32.toInt (x6_13 - x6_13 / 4 * 4) = Int32.toInt x6_13 % 4 := ti_rem rfl (by decide) (by omega) (by omega)
        try have t_41 : Int32.toInt (8 * (x6_13 - x6_13 / 4 * 4)) = 8 * Int32.toInt (x6_13 - x6_13 / 4 * 4) := ti_mul (by decide) rfl (by omega) (by omega)
        try have t_42 : Int32.toInt (24 - 8 * (x6_13 - x6_13 / 4 * 4)) = 24 - Int32.toInt (8 * (x6_13 - x6_13 / 4 * 4)) := ti_sub (by decide) rfl (by omega) (by omega)
        refine dOk_L (fun v_39 ev_39 => ?_)
        have w_43 : Int32.toInt v_39 = Int32.toInt (v_38 >>> ((24 - 8 * (x6_13 - x6_13 / 4 * 4) : Int32) &&& 31)) := by rw [ev_39]
        have f_44 : 0 ≤ Int32.toInt (q_12.1 0 13) ∧ Int32.toInt (q_12.1 0 13) ≤ 400 := a_14.1 0 13
        have f_45 : 0 ≤ Int32.toInt (q_9.1 0 13) ∧ Int32.toInt (q_9.1 0 13) ≤ 400 := hTq_9.1 0 13
        have f_46 : 0 ≤ Int32.toInt (q_8.1 0 13) ∧ Int32.toInt (q_8.1 0 13) ≤ 400 := hTq_8.1 0 13
        have f_47 : 0 ≤ Int32.toInt (q_7.1 0 13) ∧ Int32.toInt (q_7.1 0 13) ≤ 400 := hTq_7.1 0 13
        have f_48 : 0 ≤ Int32.toInt (q_6.1 0 13) ∧ Int32.toInt (q_6.1 0 13) ≤ 400 := hTq_6.1 0 13
        have f_49 : 0 ≤ Int32.toInt (q_5.1 0 13) ∧ Int32.toInt (q_5.1 0 13) ≤ 400 := hTq_5.1 0 13
        have w_50 : Int32.toInt (q_5.1 0 13) = Int32.toInt (q.1 0 13) := by rw [eq_5, dui_o (by decide)]
        have w_51 : Int32.toInt (q_6.1 0 13) = Int32.toInt (q_5.1 0 13) := by rw [eq_6, dui_o (by decide)]
        have w_52 : Int32.toInt (q_7.1 0 13) = Int32.toInt (q_6.1 0 13) := by rw [eq_7, dui_o (by decide)]
        have w_53 : Int32.toInt (q_8.1 0 13) = Int32.toInt (q_7.1 0 13) := by rw [eq_8, dui_o (by decide)]
        have w_54 : Int32.toInt (q_9.1 0 13) = Int32.toInt (q_8.1 0 13) := by rw [eq_9, dui_o (by decide)]
        have w_55 : Int32.toInt (q_12.1 0 13) = Int32.toInt (q_9.1 0 13) := by rw [a_15.2 13 (by decide)]
        try have t_56 : Int32.toInt (q_12.1 0 13 + x6_13) = Int32.toInt (q_12.1 0 13) + Int32.toInt x6_13 := ti_add rfl rfl (by omega) (by omega)
        refine dOk_G (dg_ok (show 0 ≤ Int32.toInt (q_12.1 0 13 + x6_13) by omega) (show Int32.toInt (q_12.1 0 13 + x6_13) < ((400 : Nat) : Int) by omega)) ?_
        have n_57 : ((Int32.toNatClampNeg (q_12.1 0 13 + x6_13) : Nat) : Int) = Int32.toInt (q_12.1 0 13 + x6_13) := cl_eq (by omega)
        refine dOk_L (fun q_58 eq_58 => ?_)
        have hTq_58 : TS q_58 := by rw [eq_58]; exact ts_any a_14 rfl
        have hFq_58 : dFr [7, 8] [13] q q_58 := by rw [eq_58]; exact hFq_12.i (by decide) (by decide)
        try have t_59 : Int32.toInt (x6_13 + 1) = Int32.toInt x6_13 + 1 := ti_add rfl (by decide) (by omega) (by omega)
        exact hk_10 (q_58, (x6_13 + 1)) (show (TS q_58) ∧ (dFr [7] [] q_9 q_58) ∧ (0 ≤ Int32.toInt (x6_13 + 1)) ∧ (Int32.toInt (x6_13 + 1) ≤ 20) from ⟨hTq_58, (by rw [eq_58]; exact (((dFr.rf : dFr [7] [] q_9 q_9).t a_15 (by decide) (by decide)) : dFr [7] [] q_9 q_12).i (by decide) (by decide)), by omega, by omega⟩) (show (20 - Int32.toInt (x6_13 + 1)).toNat < (20 - Int32.toInt x6_13).toNat by omega)
    · exact (show (TS q_9) ∧ (dFr [7] [] q_9 q_9) ∧ (0 ≤ (0 : Int)) ∧ ((0 : Int) ≤ 20) from ⟨hTq_9, dFr.rf, by omega, by omega⟩)
    · show (20 - (0 : Int)).toNat < 1000000000000
      omega
  · exact dOk_some (show (TS q) ∧ (dFr [7, 8] [13] q q) ∧ ((Int32.toInt (q.1 0 13) ≤ 380 ∧ Int32.toInt (q.1 0 13) = Int32.toInt (q.1 0 13) + 20) ∨ (380 < Int32.toInt (q.1 0 13) ∧ Int32.toInt (q.1 0 13) = Int32.toInt (q.1 0 13))) from ⟨hT, (dFr.rf (q := q)), by omega⟩)

set_option maxHeartbeats 4000000 in
set_option maxRecDepth 100000 in
theorem ok_end (q : dS) (p1 : Int32) (hT : TS q) : dOk (zX10_end q p1) (fun (o : Int32 × dS) => (TS o.2) ∧ (dFr [] [13] q o.2) ∧ ((0 ≤ Int32.toInt p1 ∧ Int32.toInt p1 ≤ Int32.toInt (q.1 0 13) ∧ Int32.toInt (o.2.1 0 13) = Int32.toInt p1 ∧ Int32.toInt o.1 = Int32.toInt p1) ∨ ((Int32.toInt p1 < 0 ∨ Int32.toInt (q.1 0 13) < Int32.toInt p1) ∧ Int32.toInt (o.2.1 0 13) = Int32.toInt (q.1 0 13) ∧ Int32.toInt o.1 = -1))) := by
  unfold zX10_end
  have f_1 : 0 ≤ Int32.toInt (q.1 0 13) ∧ Int32.toInt (q.1 0 13) ≤ 400 := hT.1 0 13
  refine dOk_V (ok_lies p1 0 (q.1 0 13)) (fun r_2 h_3 => ?_)
  replace h_3 : ((Int32.toInt r_2 = 1 ∧ (0 : Int) ≤ Int32.toInt p1 ∧ Int32.toInt p1 ≤ Int32.toInt (q.1 0 13)) ∨ (Int32.toInt r_2 = 0 ∧ (Int32.toInt p1 < (0 : Int) ∨ Int32.toInt (q.1 0 13) < Int32.toInt p1))) := h_3
  have i_4 := h_3
  refine dOk_eq (A := Int32.toInt r_2) (B := 0) rfl (by decide) (fun c_5z c_5 => ?_) (fun c_6z c_6 => ?_)
  · exact dOk_some (show (TS q) ∧ (dFr [] [13] q q) ∧ ((0 ≤ Int32.toInt p1 ∧ Int32.toInt p1 ≤ Int32.toInt (q.1 0 13) ∧ Int32.toInt (q.1 0 13) = Int32.toInt p1 ∧ (-1 : Int) = Int32.toInt p1) ∨ ((Int32.toInt p1 < 0 ∨ Int32.toInt (q.1 0 13) < Int32.toInt p1) ∧ Int32.toInt (q.1 0 13) = Int32.toInt (q.1 0 13) ∧ (-1 : Int) = -1)) from ⟨hT, (dFr.rf (q := q)), by omega⟩)
  · refine dOk_L (fun q_8 eq_8 => ?_)
    have hTq_8 : TS q_8 := by rw [eq_8]; exact ts_f hT (show 0 ≤ Int32.toInt p1 by omega) (show Int32.toInt p1 ≤ 400 by omega)
    have hFq_8 : dFr [] [13] q q_8 := by rw [eq_8]; exact (dFr.rf (q := q)).f (by decide)
    have f_9 : 0 ≤ Int32.toInt (q_8.1 0 13) ∧ Int32.toInt (q_8.1 0 13) ≤ 400 := hTq_8.1 0 13
    have w_10 : Int32.toInt (q_8.1 0 13) = Int32.toInt p1 := by rw [eq_8, dui_e]
    exact dOk_some (show (TS q_8) ∧ (dFr [] [13] q q_8) ∧ ((0 ≤ Int32.toInt p1 ∧ Int32.toInt p1 ≤ Int32.toInt (q.1 0 13) ∧ Int32.toInt (q_8.1 0 13) = Int32.toInt p1 ∧ Int32.toInt p1 = Int32.toInt p1) ∨ ((Int32.toInt p1 < 0 ∨ Int32.toInt (q.1 0 13) < Int32.toInt p1) ∧ Int32.toInt (q_8.1 0 13) = Int32.toInt (q.1 0 13) ∧ Int32.toInt p1 = -1)) from ⟨hTq_8, hFq_8, by omega⟩)

set_option maxHeartbeats 4000000 in
set_option maxRecDepth 100000 in
theorem ok_isSmall (p1 : Int32) : dOk (zX10_isSmall p1) (fun (o : Int32) => ((Int32.toInt o = 1 ∧ 97 ≤ Int32.toInt p1 ∧ Int32.toInt p1 ≤ 122) ∨ (Int32.toInt o = 0 ∧ (Int32.toInt p1 < 97 ∨ 122 < Int32.toInt p1)))) := by
  unfold zX10_isSmall
  refine dOk_lt (A := Int32.toInt p1) (B := 97) rfl (by decide) (fun c_1 => ?_) (fun c_2 => ?_)
  · unfold zX10_isSmall_16
    unfold zX10_isSmall_17
    refine dOk_G (dbl_ok (show (0 : Int) = 0 ∨ (0 : Int) = 1 by omega)) ?_
    exact dOk_some (show (((0 : Int) = 1 ∧ 97 ≤ Int32.toInt p1 ∧ Int32.toInt p1 ≤ 122) ∨ ((0 : Int) = 0 ∧ (Int32.toInt p1 < 97 ∨ 122 < Int32.toInt p1))) from (by omega))
  · refine dOk_lt (A := 122) (B := Int32.toInt p1) (by decide) rfl (fun c_3 => ?_) (fun c_4 => ?_)
    · unfold zX10_isSmall_16
      unfold zX10_isSmall_17
      refine dOk_G (dbl_ok (show (0 : Int) = 0 ∨ (0 : Int) = 1 by omega)) ?_
      exact dOk_some (show (((0 : Int) = 1 ∧ 97 ≤ Int32.toInt p1 ∧ Int32.toInt p1 ≤ 122) ∨ ((0 : Int) = 0 ∧ (Int32.toInt p1 < 97 ∨ 122 < Int32.toInt p1))) from (by omega))
    · unfold zX10_isSmall_17
      refine dOk_G (dbl_ok (show (1 : Int) = 0 ∨ (1 : Int) = 1 by omega)) ?_
      exact dOk_some (show (((1 : Int) = 1 ∧ 97 ≤ Int32.toInt p1 ∧ Int32.toInt p1 ≤ 122) ∨ ((1 : Int) = 0 ∧ (Int32.toInt p1 < 97 ∨ 122 < Int32.toInt p1))) from (by omega))

set_option maxHeartbeats 4000000 in
set_option maxRecDepth 100000 in
theorem ok_isDigit (p1 : Int32) : dOk (zX10_isDigit p1) (fun (o : Int32) => ((Int32.toInt o = 1 ∧ 48 ≤ Int32.toInt p1 ∧ Int32.toInt p1 ≤ 57) ∨ (Int32.toInt o = 0 ∧ (Int32.toInt p1 < 48 ∨ 57 < Int32.toInt p1)))) := by
  unfold zX10_isDigit
  refine dOk_lt (A := Int32.toInt p1) (B := 48) rfl (by decide) (fun c_1 => ?_) (fun c_2 => ?_)
  · unfold zX10_isDigit_16
    unfold zX10_isDigit_17
    refine dOk_G (dbl_ok (show (0 : Int) = 0 ∨ (0 : Int) = 1 by omega)) ?_
    exact dOk_some (show (((0 : Int) = 1 ∧ 48 ≤ Int32.toInt p1 ∧ Int32.toInt p1 ≤ 57) ∨ ((0 : Int) = 0 ∧ (Int32.toInt p1 < 48 ∨ 57 < Int32.toInt p1))) from (by omega))
  · refine dOk_lt (A := 57) (B := Int32.toInt p1) (by decide) rfl (fun c_3 => ?_) (fun c_4 => ?_)
    · unfold zX10_isDigit_16
      unfold zX10_isDigit_17
      refine dOk_G (dbl_ok (show (0 : Int) = 0 ∨ (0 : Int) = 1 by omega)) ?_
      exact dOk_some (show (((0 : Int) = 1 ∧ 48 ≤ Int32.toInt p1 ∧ Int32.toInt p1 ≤ 57) ∨ ((0 : Int) = 0 ∧ (Int32.toInt p1 < 48 ∨ 57 < Int32.toInt p1))) from (by omega))
    · unfold zX10_isDigit_17
      refine dOk_G (dbl_ok (show (1 : Int) = 0 ∨ (1 : Int) = 1 by omega)) ?_
      exact dOk_some (show (((1 : Int) = 1 ∧ 48 ≤ Int32.toInt p1 ∧ Int32.toInt p1 ≤ 57) ∨ ((1 : Int) = 0 ∧ (Int32.toInt p1 < 48 ∨ 57 < Int32.toInt p1))) from (by omega))
end
section
set_option maxHeartbeats 4000000 in
set_option maxRecDepth 100000 in
theorem ok_wordOf (q : dS) (p1 : Int32) (p2 : Int32) (hT : TS q) (hp0 : 0 ≤ Int32.toInt p1) (hp1 : Int32.toInt p1 < Int32.toInt p2) (hp2 : Int32.toInt p2 ≤ 400) : dOk (zX10_wordOf q p1 p2) (fun (o : Int32 × dS) => (o.2 = q)) := by
  unfold zX10_wordOf
  unfold zX10_wordOf_5
  refine dFix_ok (fun (a : dS × Int32 × Int32 × Int32 × Int32) => (a.1 = q) ∧ (a.2.1 = p1) ∧ (a.2.2.1 = p2) ∧ (0 ≤ Int32.toInt a.2.2.2.2) ∧ (Int32.toInt a.2.2.2.2 ≤ 128)) (fun (a : dS × Int32 × Int32 × Int32 × Int32) => (128 - Int32.toInt a.2.2.2.2).toNat) ?_ _ ?_ _ (dF_gt ?_)
  · intro a ha k_2 hk_1
    obtain ⟨q_3, x1_4, x2_5, x3_6, x4_7⟩ := a
    replace ha : (q_3 = q) ∧ (x1_4 = p1) ∧ (x2_5 = p2) ∧ (0 ≤ Int32.toInt x4_7) ∧ (Int32.toInt x4_7 ≤ 128) := ha
    obtain ⟨a_8, a_9, a_10, a_11, a_12⟩ := ha
    show dOk (zX10_wordOf_5b  (fun q x1 x2 x3 x4 => k_2 (q, x1, x2, x3, x4)) q_3 x1_4 x2_5 x3_6 x4_7) _
    unfold zX10_wordOf_5b
    subst q_3
    subst x1_4
    subst x2_5
    refine dOk_le (A := 128) (B := Int32.toInt x4_7) (by decide) rfl (fun c_13 => ?_) (fun c_14 => ?_)
    · exact dOk_some (show (q = q) from rfl)
    · unfold zX10_wordOf_18
      refine dFix_ok (fun (a : dS × Int32 × Int32 × Int32 × Int32 × Int32) => (a.1 = q) ∧ (a.2.1 = p1) ∧ (a.2.2.1 = p2) ∧ (a.2.2.2.1 = x3_6) ∧ (a.2.2.2.2.1 = x4_7) ∧ (0 ≤ Int32.toInt a.2.2.2.2.2) ∧ (Int32.toInt a.2.2.2.2.1 + Int32.toInt a.2.2.2.2.2 ≤ 127)) (fun (a : dS × Int32 × Int32 × Int32 × Int32 × Int32) => (128 - Int32.toInt a.2.2.2.2.2).toNat) ?_ _ ?_ _ (dF_gt ?_)
      · intro a ha k_16 hk_15
        obtain ⟨q_17, x1_18, x2_19, x3_20, x4_21, x5_22⟩ := a
        replace ha : (q_17 = q) ∧ (x1_18 = p1) ∧ (x2_19 = p2) ∧ (x3_20 = x3_6) ∧ (x4_21 = x4_7) ∧ (0 ≤ Int32.toInt x5_22) ∧ (Int32.toInt x4_21 + Int32.toInt x5_22 ≤ 127) := ha
        obtain ⟨a_23, a_24, a_25, a_26, a_27, a_28, a_29⟩ := ha
        show dOk (zX10_wordOf_18b _ (fun q x1 x2 x3 x4 x5 => k_16 (q, x1, x2, x3, x4, x5)) q_17 x1_18 x2_19 x3_20 x4_21 x5_22) _
        unfold zX10_wordOf_18b
        subst q_17
        subst x1_18
        subst x2_19
        subst x3_20
        subst x4_21
        try have t_30 : Int32.toInt (x4_7 + x5_22) = Int32.toInt x4_7 + Int32.toInt x5_22 := ti_add rfl rfl (by omega) (by omega)
        refine dOk_G (dg_ok (show 0 ≤ Int32.toInt (x4_7 + x5_22) by omega) (show Int32.toInt (x4_7 + x5_22) < ((128 : Nat) : Int) by omega)) ?_
        have n_31 : ((Int32.toNatClampNeg (x4_7 + x5_22) : Nat) : Int) = Int32.toInt (x4_7 + x5_22) := cl_eq (by omega)
        refine dOk_L (fun v_32 ev_32 => ?_)
        have f_33 : (Int32.toNatClampNeg (x4_7 + x5_22) = 127 → Int32.toInt v_32 = 32) := by intro z9; rw [ev_32, z9, hT.2.2.2 127 (by decide)]; decide
        refine dOk_eq (A := Int32.toInt v_32) (B := 32) rfl (by decide) (fun c_34z c_34 => ?_) (fun c_35z c_35 => ?_)
        · try have t_37 : Int32.toInt (p2 - p1) = Int32.toInt p2 - Int32.toInt p1 := ti_sub rfl rfl (by omega) (by omega)
          refine dOk_eq (A := Int32.toInt x5_22) (B := Int32.toInt (p2 - p1)) rfl rfl (fun c_38z c_38 => ?_) (fun c_39z c_39 => ?_)
          · unfold zX10_wordOf_52
            unfold zX10_wordOf_57
            refine dFix_ok (fun (a : dS × Int32 × Int32 × Int32 × Int32 × Int32 × Int32 × Int32) => (a.1 = q) ∧ (a.2.1 = p1) ∧ (a.2.2.1 = p2) ∧ (a.2.2.2.1 = x3_6) ∧ (a.2.2.2.2.1 = x4_7) ∧ (a.2.2.2.2.2.1 = x5_22) ∧ (0 ≤ Int32.toInt a.2.2.2.2.2.2.2) ∧ (Int32.toInt a.2.2.2.2.2.2.2 ≤ Int32.toInt a.2.2.2.2.2.1) ∧ (Int32.toInt a.2.2.2.2.2.2.1 = 0 ∨ (Int32.toInt a.2.2.2.2.2.2.1 = 1 ∧ Int32.toInt a.2.2.2.2.2.1 = Int32.toInt a.2.2.1 - Int32.toInt a.2.1))) (fun (a : dS × Int32 × Int32 × Int32 × Int32 × Int32 × Int32 × Int32) => (128 - Int32.toInt a.2.2.2.2.2.2.2).toNat) ?_ _ ?_ _ (dF_gt ?_)
            · intro a ha k_42 hk_41
              obtain ⟨q_43, x1_44, x2_45, x3_46, x4_47, x5_48, x6_49, x7_50⟩ := a
              replace ha : (q_43 = q) ∧ (x1_44 = p1) ∧ (x2_45 = p2) ∧ (x3_46 = x3_6) ∧ (x4_47 = x4_7) ∧ (x5_48 = x5_22) ∧ (0 ≤ Int32.toInt x7_50) ∧ (Int32.toInt x7_50 ≤ Int32.toInt x5_48) ∧ (Int32.toInt x6_49 = 0 ∨ (Int32.toInt x6_49 = 1 ∧ Int32.toInt x5_48 = Int32.toInt x2_45 - Int32.toInt x1_44)) := ha
              obtain ⟨a_51, a_52, a_53, a_54, a_55, a_56, a_57, a_58, a_59⟩ := ha
              show dOk (zX10_wordOf_57b _ (fun q x1 x2 x3 x4 x5 x6 x7 => k_42 (q, x1, x2, x3, x4, x5, x6, x7)) q_43 x1_44 x2_45 x3_46 x4_47 x5_48 x6_49 x7_50) _
              unfold zX10_wordOf_57b
              subst q_43
              subst x1_44
              subst x2_45
              subst x3_46
              subst x4_47
              subst x5_48
              refine dOk_le (A := Int32.toInt x5_22) (B := Int32.toInt x7_50) rfl rfl (fun c_60 => ?_) (fun c_61 => ?_)
              · unfold zX10_wordOf_104
                refine dOk_eq (A := Int32.toInt x6_49) (B := 0) rfl (by decide) (fun c_62z c_62 => ?_) (fun c_63z c_63 => ?_)
                · try have t_65 : Int32.toInt (x3_6 + 1) = Int32.toInt x3_6 + 1 := ti_add rfl (by decide) (by omega) (by omega)
                  try have t_66 : Int32.toInt (x5_22 + 1) = Int32.toInt x5_22 + 1 := ti_add rfl (by decide) (by omega) (by omega)
                  try have t_67 : Int32.toInt (x4_7 + (x5_22 + 1)) = Int32.toInt x4_7 + Int32.toInt (x5_22 + 1) := ti_add rfl rfl (by omega) (by omega)
                  exact hk_1 (q, p1, p2, (x3_6 + 1), (x4_7 + (x5_22 + 1))) (show (q = q) ∧ (p1 = p1) ∧ (p2 = p2) ∧ (0 ≤ Int32.toInt (x4_7 + (x5_22 + 1))) ∧ (Int32.toInt (x4_7 + (x5_22 + 1)) ≤ 128) from ⟨rfl, rfl, rfl, by omega, by omega⟩) (show (128 - Int32.toInt (x4_7 + (x5_22 + 1))).toNat < (128 - Int32.toInt x4_7).toNat by omega)
                · exact dOk_some (show (q = q) from rfl)
              · refine dOk_eq (A := Int32.toInt x6_49) (B := 0) rfl (by decide) (fun c_68z c_68 => ?_) (fun c_69z c_69 => ?_)
                · unfold zX10_wordOf_104
                  refine dOk_eq (A := Int32.toInt x6_49) (B := 0) rfl (by decide) (fun c_71z c_71 => ?_) (fun c_72z c_72 => ?_)
                  · try have t_74 : Int32.toInt (x3_6 + 1) = Int32.toInt x3_6 + 1 := ti_add rfl (by decide) (by omega) (by omega)
                    try have t_75 : Int32.toInt (x5_22 + 1) = Int32.toInt x5_22 + 1 := ti_add rfl (by decide) (by omega) (by omega)
                    try have t_76 : Int32.toInt (x4_7 + (x5_22 + 1)) = Int32.toInt x4_7 + Int32.toInt (x5_22 + 1) := ti_add rfl rfl (by omega) (by omega)
                    exact hk_1 (q, p1, p2, (x3_6 + 1), (x4_7 + (x5_22 + 1))) (show (q = q) ∧ (p1 = p1) ∧ (p2 = p2) ∧ (0 ≤ Int32.toInt (x4_7 + (x5_22 + 1))) ∧ (Int32.toInt (x4_7 + (x5_22 + 1)) ≤ 128) from ⟨rfl, rfl, rfl, by omega, by omega⟩) (show (128 - Int32.toInt (x4_7 + (x5_22 + 1))).toNat < (128 - Int32.toInt x4_7).toNat by omega)
                  · exact dOk_some (show (q = q) from rfl)
                · try have t_77 : Int32.toInt (x4_7 + x7_50) = Int32.toInt x4_7 + Int32.toInt x7_50 := ti_add rfl rfl (by omega) (by omega)
                  refine dOk_G (dg_ok (show 0 ≤ Int32.toInt (x4_7 + x7_50) by omega) (show Int32.toInt (x4_7 + x7_50) < ((128 : Nat) : Int) by omega)) ?_
                  have n_78 : ((Int32.toNatClampNeg (x4_7 + x7_50) : Nat) : Int) = Int32.toInt (x4_7 + x7_50) := cl_eq (by omega)
                  refine dOk_L (fun v_79 ev_79 => ?_)
                  have f_80 : (Int32.toNatClampNeg (x4_7 + x7_50) = 127 → Int32.toInt v_79 = 32) := by intro z9; rw [ev_79, z9, hT.2.2.2 127 (by decide)]; decide
                  try have t_81 : Int32.toInt (p1 + x7_50) = Int32.toInt p1 + Int32.toInt x7_50 := ti_add rfl rfl (by omega) (by omega)
                  refine dOk_G (dg_ok (show 0 ≤ Int32.toInt (p1 + x7_50) by omega) (show Int32.toInt (p1 + x7_50) < ((400 : Nat) : Int) by omega)) ?_
                  have n_82 : ((Int32.toNatClampNeg (p1 + x7_50) : Nat) : Int) = Int32.toInt (p1 + x7_50) := cl_eq (by omega)
                  refine dOk_L (fun v_83 ev_83 => ?_)
                  refine dOk_eq (A := Int32.toInt v_79) (B := Int32.toInt v_83) rfl rfl (fun c_84z c_84 => ?_) (fun c_85z c_85 => ?_)
                  · unfold zX10_wordOf_96
                    try have t_87 : Int32.toInt (x7_50 + 1) = Int32.toInt x7_50 + 1 := ti_add rfl (by decide) (by omega) (by omega)
                    exact hk_41 (q, p1, p2, x3_6, x4_7, x5_22, 1, (x7_50 + 1)) (show (q = q) ∧ (p1 = p1) ∧ (p2 = p2) ∧ (x3_6 = x3_6) ∧ (x4_7 = x4_7) ∧ (x5_22 = x5_22) ∧ (0 ≤ Int32.toInt (x7_50 + 1)) ∧ (Int32.toInt (x7_50 + 1) ≤ Int32.toInt x5_22) ∧ ((1 : Int) = 0 ∨ ((1 : Int) = 1 ∧ Int32.toInt x5_22 = Int32.toInt p2 - Int32.toInt p1)) from ⟨rfl, rfl, rfl, rfl, rfl, rfl, by omega, by omega, by omega⟩) (show (128 - Int32.toInt (x7_50 + 1)).toNat < (128 - Int32.toInt x7_50).toNat by omega)
                  · unfold zX10_wordOf_96
                    try have t_88 : Int32.toInt (x7_50 + 1) = Int32.toInt x7_50 + 1 := ti_add rfl (by decide) (by omega) (by omega)
                    exact hk_41 (q, p1, p2, x3_6, x4_7, x5_22, 0, (x7_50 + 1)) (show (q = q) ∧ (p1 = p1) ∧ (p2 = p2) ∧ (x3_6 = x3_6) ∧ (x4_7 = x4_7) ∧ (x5_22 = x5_22) ∧ (0 ≤ Int32.toInt (x7_50 + 1)) ∧ (Int32.toInt (x7_50 + 1) ≤ Int32.toInt x5_22) ∧ ((0 : Int) = 0 ∨ ((0 : Int) = 1 ∧ Int32.toInt x5_22 = Int32.toInt p2 - Int32.toInt p1)) from ⟨rfl, rfl, rfl, rfl, rfl, rfl, by omega, by omega, by omega⟩) (show (128 - Int32.toInt (x7_50 + 1)).toNat < (128 - Int32.toInt x7_50).toNat by omega)
            · exact (show (q = q) ∧ (p1 = p1) ∧ (p2 = p2) ∧ (x3_6 = x3_6) ∧ (x4_7 = x4_7) ∧ (x5_22 = x5_22) ∧ (0 ≤ (0 : Int)) ∧ ((0 : Int) ≤ Int32.toInt x5_22) ∧ ((1 : Int) = 0 ∨ ((1 : Int) = 1 ∧ Int32.toInt x5_22 = Int32.toInt p2 - Int32.toInt p1)) from ⟨rfl, rfl, rfl, rfl, rfl, rfl, by omega, by omega, by omega⟩)
            · show (128 - (0 : Int)).toNat < 1000000000000
              omega
          · unfold zX10_wordOf_52
            unfold zX10_wordOf_57
            refine dFix_ok (fun (a : dS × Int32 × Int32 × Int32 × Int32 × Int32 × Int32 × Int32) => (a.1 = q) ∧ (a.2.1 = p1) ∧ (a.2.2.1 = p2) ∧ (a.2.2.2.1 = x3_6) ∧ (a.2.2.2.2.1 = x4_7) ∧ (a.2.2.2.2.2.1 = x5_22) ∧ (0 ≤ Int32.toInt a.2.2.2.2.2.2.2) ∧ (Int32.toInt a.2.2.2.2.2.2.2 ≤ Int32.toInt a.2.2.2.2.2.1) ∧ (Int32.toInt a.2.2.2.2.2.2.1 = 0 ∨ (Int32.toInt a.2.2.2.2.2.2.1 = 1 ∧ Int32.toInt a.2.2.2.2.2.1 = Int32.toInt a.2.2.1 - Int32.toInt a.2.1))) (fun (a : dS × Int32 × Int32 × Int32 × Int32 × Int32 × Int32 × Int32) => (128 - Int32.toInt a.2.2.2.2.2.2.2).toNat) ?_ _ ?_ _ (dF_gt ?_)
            · intro a ha k_90 hk_89
              obtain ⟨q_91, x1_92, x2_93, x3_94, x4_95, x5_96, x6_97, x7_98⟩ := a
              replace ha : (q_91 = q) ∧ (x1_92 = p1) ∧ (x2_93 = p2) ∧ (x3_94 = x3_6) ∧ (x4_95 = x4_7) ∧ (x5_96 = x5_22) ∧ (0 ≤ Int32.toInt x7_98) ∧ (Int32.toInt x7_98 ≤ Int32.toInt x5_96) ∧ (Int32.toInt x6_97 = 0 ∨ (Int32.toInt x6_97 = 1 ∧ Int32.toInt x5_96 = Int32.toInt x2_93 - Int32.toInt x1_92)) := ha
              obtain ⟨a_99, a_100, a_101, a_102, a_103, a_104, a_105, a_106, a_107⟩ := ha
              show dOk (zX10_wordOf_57b _ (fun q x1 x2 x3 x4 x5 x6 x7 => k_90 (q, x1, x2, x3, x4, x5, x6, x7)) q_91 x1_92 x2_93 x3_94 x4_95 x5_96 x6_97 x7_98) _
              unfold zX10_wordOf_57b
              subst q_91
              subst x1_92
              subst x2_93
              subst x3_94
              subst x4_95
              subst x5_96
              refine dOk_le (A := Int32.toInt x5_22) (B := Int32.toInt x7_98) rfl rfl (fun c_108 => ?_) (fun c_109 => ?_)
              · unfold zX10_wordOf_104
                refine dOk_eq (A := Int32.toInt x6_97) (B := 0) rfl (by decide) (fun c_110z c_110 => ?_) (fun c_111z c_111 => ?_)
                · try have t_113 : Int32.toInt (x3_6 + 1) = Int32.toInt x3_6 + 1 := ti_add rfl (by decide) (by omega) (by omega)
                  try have t_114 : Int32.toInt (x5_22 + 1) = Int32.toInt x5_22 + 1 := ti_add rfl (by decide) (by omega) (by omega)
                  try have t_115 : Int32.toInt (x4_7 + (x5_22 + 1)) = Int32.toInt x4_7 + Int32.toInt (x5_22 + 1) := ti_add rfl rfl (by omega) (by omega)
                  exact hk_1 (q, p1, p2, (x3_6 + 1), (x4_7 + (x5_22 + 1))) (show (q = q) ∧ (p1 = p1) ∧ (p2 = p2) ∧ (0 ≤ Int32.toInt (x4_7 + (x5_22 + 1))) ∧ (Int32.toInt (x4_7 + (x5_22 + 1)) ≤ 128) from ⟨rfl, rfl, rfl, by omega, by omega⟩) (show (128 - Int32.toInt (x4_7 + (x5_22 + 1))).toNat < (128 - Int32.toInt x4_7).toNat by omega)
                · exact dOk_some (show (q = q) from rfl)
              · refine dOk_eq (A := Int32.toInt x6_97) (B := 0) rfl (by decide) (fun c_116z c_116 => ?_) (fun c_117z c_117 => ?_)
                · unfold zX10_wordOf_104
                  refine dOk_eq (A := Int32.toInt x6_97) (B := 0) rfl (by decide) (fun c_119z c_119 => ?_) (fun c_120z c_120 => ?_)
                  · try have t_122 : Int32.toInt (x3_6 + 1) = Int32.toInt x3_6 + 1 := ti_add rfl (by decide) (by omega) (by omega)
                    try have t_123 : Int32.toInt (x5_22 + 1) = Int32.toInt x5_22 + 1 := ti_add rfl (by decide) (by omega) (by omega)
                    try have t_124 : Int32.toInt (x4_7 + (x5_22 + 1)) = Int32.toInt x4_7 + Int32.toInt (x5_22 + 1) := ti_add rfl rfl (by omega) (by omega)
                    exact hk_1 (q, p1, p2, (x3_6 + 1), (x4_7 + (x5_22 + 1))) (show (q = q) ∧ (p1 = p1) ∧ (p2 = p2) ∧ (0 ≤ Int32.toInt (x4_7 + (x5_22 + 1))) ∧ (Int32.toInt (x4_7 + (x5_22 + 1)) ≤ 128) from ⟨rfl, rfl, rfl, by omega, by omega⟩) (show (128 - Int32.toInt (x4_7 + (x5_22 + 1))).toNat < (128 - Int32.toInt x4_7).toNat by omega)
                  · exact dOk_some (show (q = q) from rfl)
                · try have t_125 : Int32.toInt (x4_7 + x7_98) = Int32.toInt x4_7 + Int32.toInt x7_98 := ti_add rfl rfl (by omega) (by omega)
                  refine dOk_G (dg_ok (show 0 ≤ Int32.toInt (x4_7 + x7_98) by omega) (show Int32.toInt (x4_7 + x7_98) < ((128 : Nat) : Int) by omega)) ?_
                  have n_126 : ((Int32.toNatClampNeg (x4_7 + x7_98) : Nat) : Int) = Int32.toInt (x4_7 + x7_98) := cl_eq (by omega)
                  refine dOk_L (fun v_127 ev_127 => ?_)
                  have f_128 : (Int32.toNatClampNeg (x4_7 + x7_98) = 127 → Int32.toInt v_127 = 32) := by intro z9; rw [ev_127, z9, hT.2.2.2 127 (by decide)]; decide
                  try have t_129 : Int32.toInt (p1 + x7_98) = Int32.toInt p1 + Int32.toInt x7_98 := ti_add rfl rfl (by omega) (by omega)
                  refine dOk_G (dg_ok (show 0 ≤ Int32.toInt (p1 + x7_98) by omega) (show Int32.toInt (p1 + x7_98) < ((400 : Nat) : Int) by omega)) ?_
                  have n_130 : ((Int32.toNatClampNeg (p1 + x7_98) : Nat) : Int) = Int32.toInt (p1 + x7_98) := cl_eq (by omega)
                  refine dOk_L (fun v_131 ev_131 => ?_)
                  refine dOk_eq (A := Int32.toInt v_127) (B := Int32.toInt v_131) rfl rfl (fun c_132z c_132 => ?_) (fun c_133z c_133 => ?_)
                  · unfold zX10_wordOf_96
                    try have t_135 : Int32.toInt (x7_98 + 1) = Int32.toInt x7_98 + 1 := ti_add rfl (by decide) (by omega) (by omega)
                    exact hk_89 (q, p1, p2, x3_6, x4_7, x5_22, 1, (x7_98 + 1)) (show (q = q) ∧ (p1 = p1) ∧ (p2 = p2) ∧ (x3_6 = x3_6) ∧ (x4_7 = x4_7) ∧ (x5_22 = x5_22) ∧ (0 ≤ Int32.toInt (x7_98 + 1)) ∧ (Int32.toInt (x7_98 + 1) ≤ Int32.toInt x5_22) ∧ ((1 : Int) = 0 ∨ ((1 : Int) = 1 ∧ Int32.toInt x5_22 = Int32.toInt p2 - Int32.toInt p1)) from ⟨rfl, rfl, rfl, rfl, rfl, rfl, by omega, by omega, by omega⟩) (show (128 - Int32.toInt (x7_98 + 1)).toNat < (128 - Int32.toInt x7_98).toNat by omega)
                  · unfold zX10_wordOf_96
                    try have t_136 : Int32.toInt (x7_98 + 1) = Int32.toInt x7_98 + 1 := ti_add rfl (by decide) (by omega) (by omega)
                    exact hk_89 (q, p1, p2, x3_6, x4_7, x5_22, 0, (x7_98 + 1)) (show (q = q) ∧ (p1 = p1) ∧ (p2 = p2) ∧ (x3_6 = x3_6) ∧ (x4_7 = x4_7) ∧ (x5_22 = x5_22) ∧ (0 ≤ Int32.toInt (x7_98 + 1)) ∧ (Int32.toInt (x7_98 + 1) ≤ Int32.toInt x5_22) ∧ ((0 : Int) = 0 ∨ ((0 : Int) = 1 ∧ Int32.toInt x5_22 = Int32.toInt p2 - Int32.toInt p1)) from ⟨rfl, rfl, rfl, rfl, rfl, rfl, by omega, by omega, by omega⟩) (show (128 - Int32.toInt (x7_98 + 1)).toNat < (128 - Int32.toInt x7_98).toNat by omega)
            · exact (show (q = q) ∧ (p1 = p1) ∧ (p2 = p2) ∧ (x3_6 = x3_6) ∧ (x4_7 = x4_7) ∧ (x5_22 = x5_22) ∧ (0 ≤ (0 : Int)) ∧ ((0 : Int) ≤ Int32.toInt x5_22) ∧ ((0 : Int) = 0 ∨ ((0 : Int) = 1 ∧ Int32.toInt x5_22 = Int32.toInt p2 - Int32.toInt p1)) from ⟨rfl, rfl, rfl, rfl, rfl, rfl, by omega, by omega, by omega⟩)
            · show (128 - (0 : Int)).toNat < 1000000000000
              omega
        · try have t_137 : Int32.toInt (x5_22 + 1) = Int32.toInt x5_22 + 1 := ti_add rfl (by decide) (by omega) (by omega)
          exact hk_15 (q, p1, p2, x3_6, x4_7, (x5_22 + 1)) (show (q = q) ∧ (p1 = p1) ∧ (p2 = p2) ∧ (x3_6 = x3_6) ∧ (x4_7 = x4_7) ∧ (0 ≤ Int32.toInt (x5_22 + 1)) ∧ (Int32.toInt x4_7 + Int32.toInt (x5_22 + 1) ≤ 127) from ⟨rfl, rfl, rfl, rfl, rfl, by omega, by omega⟩) (show (128 - Int32.toInt (x5_22 + 1)).toNat < (128 - Int32.toInt x5_22).toNat by omega)
      · exact (show (q = q) ∧ (p1 = p1) ∧ (p2 = p2) ∧ (x3_6 = x3_6) ∧ (x4_7 = x4_7) ∧ (0 ≤ (0 : Int)) ∧ (Int32.toInt x4_7 + (0 : Int) ≤ 127) from ⟨rfl, rfl, rfl, rfl, rfl, by omega, by omega⟩)
      · show (128 - (0 : Int)).toNat < 1000000000000
        omega
  · exact (show (q = q) ∧ (p1 = p1) ∧ (p2 = p2) ∧ (0 ≤ (0 : Int)) ∧ ((0 : Int) ≤ 128) from ⟨rfl, rfl, rfl, by omega, by omega⟩)
  · show (128 - (0 : Int)).toNat < 1000000000000
    omega

set_option maxHeartbeats 4000000 in
set_option maxRecDepth 100000 in
theorem ok_isLaw (q : dS) (p1 : Int32) (hT : TS q) : dOk (zX10_isLaw q p1) (fun (o : Int32 × dS) => (o.2 = q) ∧ ((Int32.toInt o.1 = 1 ∧ -1 ≤ Int32.toInt p1 ∧ Int32.toInt p1 < Int32.toInt (q.1 2 31)) ∨ (Int32.toInt o.1 = 0 ∧ (Int32.toInt p1 < -1 ∨ Int32.toInt (q.1 2 31) ≤ Int32.toInt p1)))) := by
  unfold zX10_isLaw
  have f_1 : 0 ≤ Int32.toInt (q.1 2 31) ∧ Int32.toInt (q.1 2 31) ≤ 6 := hT.1 2 31
  try have t_2 : Int32.toInt (q.1 2 31 - 1) = Int32.toInt (q.1 2 31) - 1 := ti_sub rfl (by decide) (by omega) (by omega)
  refine dOk_V (ok_lies p1 (-1) (q.1 2 31 - 1)) (fun r_3 h_4 => ?_)
  replace h_4 : ((Int32.toInt r_3 = 1 ∧ (-1 : Int) ≤ Int32.toInt p1 ∧ Int32.toInt p1 ≤ Int32.toInt (q.1 2 31 - 1)) ∨ (Int32.toInt r_3 = 0 ∧ (Int32.toInt p1 < (-1 : Int) ∨ Int32.toInt (q.1 2 31 - 1) < Int32.toInt p1))) := h_4
  have i_5 := h_4
  refine dOk_G (dbl_ok (show Int32.toInt r_3 = 0 ∨ Int32.toInt r_3 = 1 by omega)) ?_
  exact dOk_some (show (q = q) ∧ ((Int32.toInt r_3 = 1 ∧ -1 ≤ Int32.toInt p1 ∧ Int32.toInt p1 < Int32.toInt (q.1 2 31)) ∨ (Int32.toInt r_3 = 0 ∧ (Int32.toInt p1 < -1 ∨ Int32.toInt (q.1 2 31) ≤ Int32.toInt p1))) from ⟨rfl, by omega⟩)

set_option maxHeartbeats 4000000 in
set_option maxRecDepth 100000 in
theorem ok_force (q : dS) (p1 : Int32) (hT : TS q) : dOk (zX10_force q p1) (fun (o : Int32 × dS) => (TS o.2) ∧ (dFr [1, 2] [0] q o.2) ∧ (Int32.toInt (o.2.1 2 31) = Int32.toInt (q.1 2 31))) := by
  unfold zX10_force
  refine dOk_B (ok_isLaw q p1 hT) (fun r_1 q_2 h_3 => ?_)
  replace h_3 : (q_2 = q) ∧ ((Int32.toInt r_1 = 1 ∧ -1 ≤ Int32.toInt p1 ∧ Int32.toInt p1 < Int32.toInt (q.1 2 31)) ∨ (Int32.toInt r_1 = 0 ∧ (Int32.toInt p1 < -1 ∨ Int32.toInt (q.1 2 31) ≤ Int32.toInt p1))) := h_3
  obtain ⟨i_4, i_5⟩ := h_3
  subst q_2
  have f_6 : 0 ≤ Int32.toInt (q.1 2 31) ∧ Int32.toInt (q.1 2 31) ≤ 6 := hT.1 2 31
  refine dOk_eq (A := Int32.toInt r_1) (B := 0) rfl (by decide) (fun c_7z c_7 => ?_) (fun c_8z c_8 => ?_)
  · refine dOk_B (ok_refuses q (-2) hT (show (-6) ≤ (-2 : Int) by omega) (show (-2 : Int) ≤ 0 by omega)) (fun r_10 q_11 h_12 => ?_)
    replace h_12 : (TS q_11) ∧ (dFr [1] [0] q q_11) ∧ (Int32.toInt r_10 = (-2 : Int)) := h_12
    obtain ⟨i_13, i_14, i_15⟩ := h_12
    have hFq_11 : dFr [1, 2] [0] q q_11 := (dFr.rf (q := q)).t i_14 (by decide) (by decide)
    have f_16 : 0 ≤ Int32.toInt (q_11.1 2 31) ∧ Int32.toInt (q_11.1 2 31) ≤ 6 := i_13.1 2 31
    have w_17 : Int32.toInt (q_11.1 2 31) = Int32.toInt (q.1 2 31) := by rw [i_14.1 2 (by decide) (by decide)]
    exact dOk_some (show (TS q_11) ∧ (dFr [1, 2] [0] q q_11) ∧ (Int32.toInt (q_11.1 2 31) = Int32.toInt (q.1 2 31)) from ⟨i_13, hFq_11, by omega⟩)
  · refine dOk_L (fun q_18 eq_18 => ?_)
    have hTq_18 : TS q_18 := by rw [eq_18]; exact ts_force hT (show -1 ≤ Int32.toInt p1 by omega) (show Int32.toInt p1 < Int32.toInt (q.1 2 31) by omega)
    have hFq_18 : dFr [1, 2] [0] q q_18 := by rw [eq_18]; exact (dFr.rf (q := q)).i (by decide) (by decide)
    have f_19 : -1 ≤ Int32.toInt (q.1 2 32) ∧ Int32.toInt (q.1 2 32) ≤ 5 := hT.1 2 32
    have k_20 : Int32.toInt (q.1 2 32) < Int32.toInt (q.1 2 31) := hT.2.1.1
    refine dOk_B (ok_good q_18 (q.1 2 32) hTq_18) (fun r_21 q_22 h_23 => ?_)
    replace h_23 : (TS q_22) ∧ (dFr [] [0] q_18 q_22) ∧ (Int32.toInt r_21 = Int32.toInt (q.1 2 32)) := h_23
    obtain ⟨i_24, i_25, i_26⟩ := h_23
    have hFq_22 : dFr [1, 2] [0] q q_22 := hFq_18.t i_25 (by decide) (by decide)
    have f_27 : 0 ≤ Int32.toInt (q_22.1 2 31) ∧ Int32.toInt (q_22.1 2 31) ≤ 6 := i_24.1 2 31
    have f_28 : 0 ≤ Int32.toInt (q_18.1 2 31) ∧ Int32.toInt (q_18.1 2 31) ≤ 6 := hTq_18.1 2 31
    have w_29 : Int32.toInt (q_18.1 2 31) = Int32.toInt (q.1 2 31) := by rw [eq_18, dui_n (by decide)]
    have w_30 : Int32.toInt (q_22.1 2 31) = Int32.toInt (q_18.1 2 31) := by rw [i_25.1 2 (by decide) (by decide)]
    exact dOk_some (show (TS q_22) ∧ (dFr [1, 2] [0] q q_22) ∧ (Int32.toInt (q_22.1 2 31) = Int32.toInt (q.1 2 31)) from ⟨i_24, hFq_22, by omega⟩)

set_option maxHeartbeats 4000000 in
set_option maxRecDepth 100000 in
theorem ok_rankBelow (q : dS) (p1 : Int32) (hT : TS q) (hp0 : 0 ≤ Int32.toInt p1) : dOk (zX10_rankBelow q p1) (fun (o : Int32 × dS) => (o.2 = q) ∧ (-1 ≤ Int32.toInt o.1 ∧ Int32.toInt o.1 ≤ 5)) := by
  unfold zX10_rankBelow
  refine dOk_B (ok_size q hT) (fun r_1 q_2 h_3 => ?_)
  replace h_3 : (q_2 = q) ∧ (Int32.toInt r_1 = Int32.toInt (q.1 2 29)) ∧ (0 ≤ Int32.toInt r_1 ∧ Int32.toInt r_1 ≤ 6) := h_3
  obtain ⟨i_4, i_5, i_6⟩ := h_3
  subst q_2
  have f_7 : 0 ≤ Int32.toInt (q.1 2 29) ∧ Int32.toInt (q.1 2 29) ≤ 6 := hT.1 2 29
  refine dOk_le (A := Int32.toInt r_1) (B := Int32.toInt p1) rfl rfl (fun c_8 => ?_) (fun c_9 => ?_)
  · unfold zX10_rankBelow_20
    exact dOk_some (show (q = q) ∧ (-1 ≤ (-1 : Int) ∧ (-1 : Int) ≤ 5) from ⟨rfl, by omega⟩)
  · try have t_10 : Int32.toInt (0 + p1) = 0 + Int32.toInt p1 := ti_add (by decide) rfl (by omega) (by omega)
    refine dOk_G (dg_ok (show 0 ≤ Int32.toInt (0 + p1) by omega) (show Int32.toInt (0 + p1) < ((5640 : Nat) : Int) by omega)) ?_
    have n_11 : ((Int32.toNatClampNeg (0 + p1) : Nat) : Int) = Int32.toInt (0 + p1) := cl_eq (by omega)
    refine dOk_L (fun v_12 ev_12 => ?_)
    try have g_13 : klo (Int32.toNatClampNeg (0 + p1)) ≤ Int32.toInt v_12 ∧ Int32.toInt v_12 ≤ khi (Int32.toNatClampNeg (0 + p1)) := by rw [ev_12]; exact te_k hT _
    try have f_14 : 0 ≤ Int32.toInt v_12 ∧ Int32.toInt v_12 ≤ 5 := by rw [ev_12]; exact te_2r hT (by omega) (by omega)
    try have f_15 : 0 ≤ Int32.toInt v_12 ∧ Int32.toInt v_12 ≤ 1 := by rw [ev_12]; exact te_2h hT (by omega) (by omega)
    try have f_16 : 0 ≤ Int32.toInt v_12 ∧ Int32.toInt v_12 ≤ 5 := by rw [ev_12]; exact te_2s hT (by omega) (by omega)
    try have f_17 : 0 ≤ Int32.toInt v_12 ∧ Int32.toInt v_12 ≤ 400 := by rw [ev_12]; exact te_2z hT (by omega) (by omega)
    unfold zX10_rankBelow_20
    exact dOk_some (show (q = q) ∧ (-1 ≤ Int32.toInt v_12 ∧ Int32.toInt v_12 ≤ 5) from ⟨rfl, by omega⟩)

set_option maxHeartbeats 4000000 in
set_option maxRecDepth 100000 in
theorem ok_setsTurn (q : dS) (p1 : Int32) (p2 : Int32) (p3 : Int32) (p4 : Int32) (hT : TS q) : dOk (zX10_setsTurn q p1 p2 p3 p4) (fun (o : dS) => (TS o) ∧ (dFr [12] [] q o) ∧ (Int32.toInt (o.1 12 0) = Int32.toInt p1)) := by
  unfold zX10_setsTurn
  refine dOk_L (fun q_1 eq_1 => ?_)
  have hTq_1 : TS q_1 := by rw [eq_1]; exact ts_any hT rfl
  have hFq_1 : dFr [12] [] q q_1 := by rw [eq_1]; exact (dFr.rf (q := q)).i (by decide) (by decide)
  refine dOk_L (fun q_2 eq_2 => ?_)
  have hTq_2 : TS q_2 := by rw [eq_2]; exact ts_any hTq_1 rfl
  have hFq_2 : dFr [12] [] q q_2 := by rw [eq_2]; exact hFq_1.i (by decide) (by decide)
  refine dOk_L (fun q_3 eq_3 => ?_)
  have hTq_3 : TS q_3 := by rw [eq_3]; exact ts_any hTq_2 rfl
  have hFq_3 : dFr [12] [] q q_3 := by rw [eq_3]; exact hFq_2.i (by decide) (by decide)
  refine dOk_V (ok_setsAsked q_3 (-1) (-1) p4 hTq_3) (fun q_4 h_5 => ?_)
  replace h_5 : (TS q_4) ∧ (dFr [12] [] q_3 q_4) ∧ (Int32.toInt (q_4.1 12 0) = Int32.toInt (q_3.1 12 0)) ∧ (Int32.toInt (q_4.1 12 1) = Int32.toInt (q_3.1 12 1)) ∧ (Int32.toInt (q_4.1 12 2) = Int32.toInt (q_3.1 12 2)) := h_5
  obtain ⟨i_6, i_7, i_8, i_9, i_10⟩ := h_5
  have hFq_4 : dFr [12] [] q q_4 := hFq_3.t i_7 (by decide) (by decide)
  have w_11 : Int32.toInt (q_1.1 12 0) = Int32.toInt p1 := by rw [eq_1, dui_e]
  have w_12 : Int32.toInt (q_2.1 12 0) = Int32.toInt (q_1.1 12 0) := by rw [eq_2, dui_n (by decide)]
  have w_13 : Int32.toInt (q_3.1 12 0) = Int32.toInt (q_2.1 12 0) := by rw [eq_3, dui_n (by decide)]
  have w_14 : Int32.toInt (q_2.1 12 1) = Int32.toInt p2 := by rw [eq_2, dui_e]
  have w_15 : Int32.toInt (q_3.1 12 1) = Int32.toInt (q_2.1 12 1) := by rw [eq_3, dui_n (by decide)]
  have w_16 : Int32.toInt (q_3.1 12 2) = Int32.toInt p3 := by rw [eq_3, dui_e]
  exact dOk_some (show (TS q_4) ∧ (dFr [12] [] q q_4) ∧ (Int32.toInt (q_4.1 12 0) = Int32.toInt p1) from ⟨i_6, hFq_4, by omega⟩)

set_option maxHeartbeats 4000000 in
set_option maxRecDepth 100000 in
theorem ok_exchanges (q : dS) (p1 : Int32) (p2 : Int32) (hT : TS q) (hp0 : 0 ≤ Int32.toInt p1 ∧ Int32.toInt p1 ≤ 5) (hp1 : 0 ≤ Int32.toInt p2 ∧ Int32.toInt p2 ≤ 5) : dOk (zX10_exchanges q p1 p2) (fun (o : dS) => (TS o) ∧ (dFk [2] [] q o) ∧ (Int32.toInt (o.1 2 12) = Int32.toInt (q.1 2 12)) ∧ (Int32.toInt (o.1 2 13) = Int32.toInt (q.1 2 13)) ∧ (Int32.toInt (o.1 2 29) = Int32.toInt (q.1 2 29))) := by
  unfold zX10_exchanges
  try have t_1 : Int32.toInt (0 + p1) = 0 + Int32.toInt p1 := ti_add (by decide) rfl (by omega) (by omega)
  refine dOk_G (dg_ok (show 0 ≤ Int32.toInt (0 + p1) by omega) (show Int32.toInt (0 + p1) < ((5640 : Nat) : Int) by omega)) ?_
  have n_2 : ((Int32.toNatClampNeg (0 + p1) : Nat) : Int) = Int32.toInt (0 + p1) := cl_eq (by omega)
  refine dOk_L (fun v_3 ev_3 => ?_)
  try have g_4 : klo (Int32.toNatClampNeg (0 + p1)) ≤ Int32.toInt v_3 ∧ Int32.toInt v_3 ≤ khi (Int32.toNatClampNeg (0 + p1)) := by rw [ev_3]; exact te_k hT _
  try have f_5 : 0 ≤ Int32.toInt v_3 ∧ Int32.toInt v_3 ≤ 5 := by rw [ev_3]; exact te_2r hT (by omega) (by omega)
  try have f_6 : 0 ≤ Int32.toInt v_3 ∧ Int32.toInt v_3 ≤ 1 := by rw [ev_3]; exact te_2h hT (by omega) (by omega)
  try have f_7 : 0 ≤ Int32.toInt v_3 ∧ Int32.toInt v_3 ≤ 5 := by rw [ev_3]; exact te_2s hT (by omega) (by omega)
  try have f_8 : 0 ≤ Int32.toInt v_3 ∧ Int32.toInt v_3 ≤ 400 := by rw [ev_3]; exact te_2z hT (by omega) (by omega)
  try have t_9 : Int32.toInt (6 + p1) = 6 + Int32.toInt p1 := ti_add (by decide) rfl (by omega) (by omega)
  refine dOk_G (dg_ok (show 0 ≤ Int32.toInt (6 + p1) by omega) (show Int32.toInt (6 + p1) < ((5640 : Nat) : Int) by omega)) ?_
  have n_10 : ((Int32.toNatClampNeg (6 + p1) : Nat) : Int) = Int32.toInt (6 + p1) := cl_eq (by omega)
  refine dOk_L (fun v_11 ev_11 => ?_)
  try have g_12 : klo (Int32.toNatClampNeg (6 + p1)) ≤ Int32.toInt v_11 ∧ Int32.toInt v_11 ≤ khi (Int32.toNatClampNeg (6 + p1)) := by rw [ev_11]; exact te_k hT _
  try have f_13 : 0 ≤ Int32.toInt v_11 ∧ Int32.toInt v_11 ≤ 5 := by rw [ev_11]; exact te_2r hT (by omega) (by omega)
  try have f_14 : 0 ≤ Int32.toInt v_11 ∧ Int32.toInt v_11 ≤ 1 := by rw [ev_11]; exact te_2h hT (by omega) (by omega)
  try have f_15 : 0 ≤ Int32.toInt v_11 ∧ Int32.toInt v_11 ≤ 5 := by rw [ev_11]; exact te_2s hT (by omega) (by omega)
  try have f_16 : 0 ≤ Int32.toInt v_11 ∧ Int32.toInt v_11 ≤ 400 := by rw [ev_11]; exact te_2z hT (by omega) (by omega)
  try have t_17 : Int32.toInt (0 + p2) = 0 + Int32.toInt p2 := ti_add (by decide) rfl (by omega) (by omega)
  refine dOk_G (dg_ok (show 0 ≤ Int32.toInt (0 + p2) by omega) (show Int32.toInt (0 + p2) < ((5640 : Nat) : Int) by omega)) ?_
  have n_18 : ((Int32.toNatClampNeg (0 + p2) : Nat) : Int) = Int32.toInt (0 + p2) := cl_eq (by omega)
  refine dOk_L (fun v_19 ev_19 => ?_)
  try have g_20 : klo (Int32.toNatClampNeg (0 + p2)) ≤ Int32.toInt v_19 ∧ Int32.toInt v_19 ≤ khi (Int32.toNatClampNeg (0 + p2)) := by rw [ev_19]; exact te_k hT _
  try have f_21 : 0 ≤ Int32.toInt v_19 ∧ Int32.toInt v_19 ≤ 5 := by rw [ev_19]; exact te_2r hT (by omega) (by omega)
  try have f_22 : 0 ≤ Int32.toInt v_19 ∧ Int32.toInt v_19 ≤ 1 := by rw [ev_19]; exact te_2h hT (by omega) (by omega)
  try have f_23 : 0 ≤ Int32.toInt v_19 ∧ Int32.toInt v_19 ≤ 5 := by rw [ev_19]; exact te_2s hT (by omega) (by omega)
  try have f_24 : 0 ≤ Int32.toInt v_19 ∧ Int32.toInt v_19 ≤ 400 := by rw [ev_19]; exact te_2z hT (by omega) (by omega)
  refine dOk_G (dg_ok (show 0 ≤ Int32.toInt (0 + p1) by omega) (show Int32.toInt (0 + p1) < ((5640 : Nat) : Int) by omega)) ?_
  refine dOk_L (fun q_25 eq_25 => ?_)
  have hTq_25 : TS q_25 := by rw [eq_25]; first | exact ts_2c hT (by omega) (show Int32.toNatClampNeg (0 + p1) = Int32.toNatClampNeg (0 + p2) by omega) g_20 | exact ts_set2 hT (by omega) (show klo (Int32.toNatClampNeg (0 + p1)) ≤ Int32.toInt v_19 by unfold klo; omega) (show Int32.toInt v_19 ≤ khi (Int32.toNatClampNeg (0 + p1)) by unfold khi; omega)
  have hFq_25 : dFk [2] [] q q_25 := by rw [eq_25]; exact (dFk.rf (q := q)).k (by omega) (by decide)
  try have t_26 : Int32.toInt (6 + p2) = 6 + Int32.toInt p2 := ti_add (by decide) rfl (by omega) (by omega)
  refine dOk_G (dg_ok (show 0 ≤ Int32.toInt (6 + p2) by omega) (show Int32.toInt (6 + p2) < ((5640 : Nat) : Int) by omega)) ?_
  have n_27 : ((Int32.toNatClampNeg (6 + p2) : Nat) : Int) = Int32.toInt (6 + p2) := cl_eq (by omega)
  refine dOk_L (fun v_28 ev_28 => ?_)
  try have g_29 : klo (Int32.toNatClampNeg (6 + p2)) ≤ Int32.toInt v_28 ∧ Int32.toInt v_28 ≤ khi (Int32.toNatClampNeg (6 + p2)) := by rw [ev_28]; exact te_k hTq_25 _
  try have f_30 : 0 ≤ Int32.toInt v_28 ∧ Int32.toInt v_28 ≤ 5 := by rw [ev_28]; exact te_2r hTq_25 (by omega) (by omega)
  try have f_31 : 0 ≤ Int32.toInt v_28 ∧ Int32.toInt v_28 ≤ 1 := by rw [ev_28]; exact te_2h hTq_25 (by omega) (by omega)
  try have f_32 : 0 ≤ Int32.toInt v_28 ∧ Int32.toInt v_28 ≤ 5 := by rw [ev_28]; exact te_2s hTq_25 (by omega) (by omega)
  try have f_33 : 0 ≤ Int32.toInt v_28 ∧ Int32.toInt v_28 ≤ 400 := by rw [ev_28]; exact te_2z hTq_25 (by omega) (by omega)
  refine dOk_G (dg_ok (show 0 ≤ Int32.toInt (6 + p1) by omega) (show Int32.toInt (6 + p1) < ((5640 : Nat) : Int) by omega)) ?_
  refine dOk_L (fun q_34 eq_34 => ?_)
  have hTq_34 : TS q_34 := by rw [eq_34]; first | exact ts_2c hTq_25 (by omega) (show Int32.toNatClampNeg (6 + p1) = Int32.toNatClampNeg (6 + p2) by omega) g_29 | exact ts_set2 hTq_25 (by omega) (show klo (Int32.toNatClampNeg (6 + p1)) ≤ Int32.toInt v_28 by unfold klo; omega) (show Int32.toInt v_28 ≤ khi (Int32.toNatClampNeg (6 + p1)) by unfold khi; omega)
  have hFq_34 : dFk [2] [] q q_34 := by rw [eq_34]; exact hFq_25.k (by omega) (by decide)
  refine dOk_G (dg_ok (show 0 ≤ Int32.toInt (0 + p2) by omega) (show Int32.toInt (0 + p2) < ((5640 : Nat) : Int) by omega)) ?_
  refine dOk_L (fun q_35 eq_35 => ?_)
  have hTq_35 : TS q_35 := by rw [eq_35]; first | exact ts_2c hTq_34 (by omega) (show Int32.toNatClampNeg (0 + p2) = Int32.toNatClampNeg (0 + p1) by omega) g_4 | exact ts_set2 hTq_34 (by omega) (show klo (Int32.toNatClampNeg (0 + p2)) ≤ Int32.toInt v_3 by unfold klo; omega) (show Int32.toInt v_3 ≤ khi (Int32.toNatClampNeg (0 + p2)) by unfold khi; omega)
  have hFq_35 : dFk [2] [] q q_35 := by rw [eq_35]; exact hFq_34.k (by omega) (by decide)
  refine dOk_G (dg_ok (show 0 ≤ Int32.toInt (6 + p2) by omega) (show Int32.toInt (6 + p2) < ((5640 : Nat) : Int) by omega)) ?_
  refine dOk_L (fun q_36 eq_36 => ?_)
  have hTq_36 : TS q_36 := by rw [eq_36]; first | exact ts_2c hTq_35 (by omega) (show Int32.toNatClampNeg (6 + p2) = Int32.toNatClampNeg (6 + p1) by omega) g_12 | exact ts_set2 hTq_35 (by omega) (show klo (Int32.toNatClampNeg (6 + p2)) ≤ Int32.toInt v_11 by unfold klo; omega) (show Int32.toInt v_11 ≤ khi (Int32.toNatClampNeg (6 + p2)) by unfold khi; omega)
  have hFq_36 : dFk [2] [] q q_36 := by rw [eq_36]; exact hFq_35.k (by omega) (by decide)
  have f_37 : 0 ≤ Int32.toInt (q_36.1 2 12) ∧ Int32.toInt (q_36.1 2 12) ≤ 9999 := hTq_36.1 2 12
  have f_38 : 0 ≤ Int32.toInt (q_35.1 2 12) ∧ Int32.toInt (q_35.1 2 12) ≤ 9999 := hTq_35.1 2 12
  have f_39 : 0 ≤ Int32.toInt (q_34.1 2 12) ∧ Int32.toInt (q_34.1 2 12) ≤ 9999 := hTq_34.1 2 12
  have f_40 : 0 ≤ Int32.toInt (q_25.1 2 12) ∧ Int32.toInt (q_25.1 2 12) ≤ 9999 := hTq_25.1 2 12
  have f_41 : 0 ≤ Int32.toInt (q.1 2 12) ∧ Int32.toInt (q.1 2 12) ≤ 9999 := hT.1 2 12
  try have w_42 : Int32.toInt (q_25.1 2 12) = Int32.toInt (q.1 2 12) := by rw [eq_25, dui_n (by omega)]
  try have w_43 : Int32.toInt (q_34.1 2 12) = Int32.toInt (q_25.1 2 12) := by rw [eq_34, dui_n (by omega)]
  try have w_44 : Int32.toInt (q_35.1 2 12) = Int32.toInt (q_34.1 2 12) := by rw [eq_35, dui_n (by omega)]
  try have w_45 : Int32.toInt (q_36.1 2 12) = Int32.toInt (q_35.1 2 12) := by rw [eq_36, dui_n (by omega)]
  have f_46 : 0 ≤ Int32.toInt (q_36.1 2 13) ∧ Int32.toInt (q_36.1 2 13) ≤ 999 := hTq_36.1 2 13
  have f_47 : 0 ≤ Int32.toInt (q_35.1 2 13) ∧ Int32.toInt (q_35.1 2 13) ≤ 999 := hTq_35.1 2 13
  have f_48 : 0 ≤ Int32.toInt (q_34.1 2 13) ∧ Int32.toInt (q_34.1 2 13) ≤ 999 := hTq_34.1 2 13
  have f_49 : 0 ≤ Int32.toInt (q_25.1 2 13) ∧ Int32.toInt (q_25.1 2 13) ≤ 999 := hTq_25.1 2 13
  have f_50 : 0 ≤ Int32.toInt (q.1 2 13) ∧ Int32.toInt (q.1 2 13) ≤ 999 := hT.1 2 13
  try have w_51 : Int32.toInt (q_25.1 2 13) = Int32.toInt (q.1 2 13) := by rw [eq_25, dui_n (by omega)]
  try have w_52 : Int32.toInt (q_34.1 2 13) = Int32.toInt (q_25.1 2 13) := by rw [eq_34, dui_n (by omega)]
  try have w_53 : Int32.toInt (q_35.1 2 13) = Int32.toInt (q_34.1 2 13) := by rw [eq_35, dui_n (by omega)]
  try have w_54 : Int32.toInt (q_36.1 2 13) = Int32.toInt (q_35.1 2 13) := by rw [eq_36, dui_n (by omega)]
  have f_55 : 0 ≤ Int32.toInt (q_36.1 2 29) ∧ Int32.toInt (q_36.1 2 29) ≤ 6 := hTq_36.1 2 29
  have f_56 : 0 ≤ Int32.toInt (q_35.1 2 29) ∧ Int32.toInt (q_35.1 2 29) ≤ 6 := hTq_35.1 2 29
  have f_57 : 0 ≤ Int32.toInt (q_34.1 2 29) ∧ Int32.toInt (q_34.1 2 29) ≤ 6 := hTq_34.1 2 29
  have f_58 : 0 ≤ Int32.toInt (q_25.1 2 29) ∧ Int32.toInt (q_25.1 2 29) ≤ 6 := hTq_25.1 2 29
  have f_59 : 0 ≤ Int32.toInt (q.1 2 29) ∧ Int32.toInt (q.1 2 29) ≤ 6 := hT.1 2 29
  try have w_60 : Int32.toInt (q_25.1 2 29) = Int32.toInt (q.1 2 29) := by rw [eq_25, dui_n (by omega)]
  try have w_61 : Int32.toInt (q_34.1 2 29) = Int32.toInt (q_25.1 2 29) := by rw [eq_34, dui_n (by omega)]
  try have w_62 : Int32.toInt (q_35.1 2 29) = Int32.toInt (q_34.1 2 29) := by rw [eq_35, dui_n (by omega)]
  try have w_63 : Int32.toInt (q_36.1 2 29) = Int32.toInt (q_35.1 2 29) := by rw [eq_36, dui_n (by omega)]
  exact dOk_some (show (TS q_36) ∧ (dFk [2] [] q q_36) ∧ (Int32.toInt (q_36.1 2 12) = Int32.toInt (q.1 2 12)) ∧ (Int32.toInt (q_36.1 2 13) = Int32.toInt (q.1 2 13)) ∧ (Int32.toInt (q_36.1 2 29) = Int32.toInt (q.1 2 29)) from ⟨hTq_36, hFq_36, by omega, by omega, by omega⟩)
end
section
set_option maxHeartbeats 4000000 in
set_option maxRecDepth 100000 in
theorem ok_keeps (q : dS) (p1 : Int32) (hT : TS q) : dOk (zX10_keeps q p1) (fun (o : dS) => (TS o) ∧ (dFr [14] [32] q o)) := by
  unfold zX10_keeps
  have f_1 : 0 ≤ Int32.toInt (q.1 0 32) ∧ Int32.toInt (q.1 0 32) ≤ 16 := hT.1 0 32
  refine dOk_eq (A := Int32.toInt (q.1 0 32)) (B := 16) rfl (by decide) (fun c_2z c_2 => ?_) (fun c_3z c_3 => ?_)
  · unfold zX10_keeps_14
    refine dFix_ok (fun (a : dS × Int32 × Int32 × Int32) => (TS a.1) ∧ (dFr [14] [] q a.1) ∧ (a.2.1 = p1) ∧ (a.2.2.1 = 15) ∧ (0 ≤ Int32.toInt a.2.2.2) ∧ (Int32.toInt a.2.2.2 ≤ 225)) (fun (a : dS × Int32 × Int32 × Int32) => (225 - Int32.toInt a.2.2.2).toNat) ?_ _ ?_ _ (dF_gt ?_)
    · intro a ha k_6 hk_5
      obtain ⟨q_7, x1_8, x2_9, x3_10⟩ := a
      replace ha : (TS q_7) ∧ (dFr [14] [] q q_7) ∧ (x1_8 = p1) ∧ (x2_9 = 15) ∧ (0 ≤ Int32.toInt x3_10) ∧ (Int32.toInt x3_10 ≤ 225) := ha
      obtain ⟨a_11, a_12, a_13, a_14, a_15, a_16⟩ := ha
      show dOk (zX10_keeps_14b  (fun q x1 x2 x3 => k_6 (q, x1, x2, x3)) q_7 x1_8 x2_9 x3_10) _
      unfold zX10_keeps_14b
      have hFq_7 : dFr [14] [32] q q_7 := (dFr.rf (q := q)).t a_12 (by decide) (by decide)
      subst x1_8
      subst x2_9
      try have t_17 : Int32.toInt (15 * 15) = 15 * 15 := ti_mul (by decide) (by decide) (by omega) (by omega)
      refine dOk_le (A := Int32.toInt (15 * 15)) (B := Int32.toInt x3_10) rfl rfl (fun c_18 => ?_) (fun c_19 => ?_)
      · refine dOk_L (fun q_20 eq_20 => ?_)
        have f_21 : 0 ≤ Int32.toInt (q_7.1 0 32) ∧ Int32.toInt (q_7.1 0 32) ≤ 16 := a_11.1 0 32
        have w_22 : Int32.toInt (q_7.1 0 32) = Int32.toInt (q.1 0 32) := by rw [a_12.2 32 (by decide)]
        try have t_23 : Int32.toInt (q_7.1 0 32 - 1) = Int32.toInt (q_7.1 0 32) - 1 := ti_sub rfl (by decide) (by omega) (by omega)
        have hTq_20 : TS q_20 := by rw [eq_20]; exact ts_f a_11 (show 0 ≤ Int32.toInt (q_7.1 0 32 - 1) by omega) (show Int32.toInt (q_7.1 0 32 - 1) ≤ 16 by omega)
        have hFq_20 : dFr [14] [32] q q_20 := by rw [eq_20]; exact hFq_7.f (by decide)
        unfold zX10_keeps_52
        unfold zX10_keeps_54
        refine dFix_ok (fun (a : dS × Int32 × Int32 × Int32) => (TS a.1) ∧ (dFr [14] [] q_20 a.1) ∧ (a.2.1 = p1) ∧ (a.2.2.1 = 15) ∧ (0 ≤ Int32.toInt a.2.2.2) ∧ (Int32.toInt a.2.2.2 ≤ 14)) (fun (a : dS × Int32 × Int32 × Int32) => (14 - Int32.toInt a.2.2.2).toNat) ?_ _ ?_ _ (dF_gt ?_)
        · intro a ha k_25 hk_24
          obtain ⟨q_26, x1_27, x2_28, x3_29⟩ := a
          replace ha : (TS q_26) ∧ (dFr [14] [] q_20 q_26) ∧ (x1_27 = p1) ∧ (x2_28 = 15) ∧ (0 ≤ Int32.toInt x3_29) ∧ (Int32.toInt x3_29 ≤ 14) := ha
          obtain ⟨a_30, a_31, a_32, a_33, a_34, a_35⟩ := ha
          show dOk (zX10_keeps_54b  (fun q x1 x2 x3 => k_25 (q, x1, x2, x3)) q_26 x1_27 x2_28 x3_29) _
          unfold zX10_keeps_54b
          have hFq_26 : dFr [14] [32] q q_26 := hFq_20.t a_31 (by decide) (by decide)
          subst x1_27
          subst x2_28
          refine dOk_le (A := 14) (B := Int32.toInt x3_29) (by decide) rfl (fun c_36 => ?_) (fun c_37 => ?_)
          · have f_38 : 0 ≤ Int32.toInt (q_26.1 0 32) ∧ Int32.toInt (q_26.1 0 32) ≤ 16 := a_30.1 0 32
            have f_39 : 0 ≤ Int32.toInt (q_20.1 0 32) ∧ Int32.toInt (q_20.1 0 32) ≤ 16 := hTq_20.1 0 32
            have w_40 : Int32.toInt (q_20.1 0 32) = Int32.toInt (q_7.1 0 32 - 1) := by rw [eq_20, dui_e]
            have w_41 : Int32.toInt (q_26.1 0 32) = Int32.toInt (q_20.1 0 32) := by rw [a_31.2 32 (by decide)]
            try have t_42 : Int32.toInt (15 * q_26.1 0 32) = 15 * Int32.toInt (q_26.1 0 32) := ti_mul (by decide) rfl (by omega) (by omega)
            try have t_43 : Int32.toInt (15 * q_26.1 0 32 + 14) = Int32.toInt (15 * q_26.1 0 32) + 14 := ti_add rfl (by decide) (by omega) (by omega)
            refine dOk_G (dg_ok (show 0 ≤ Int32.toInt (15 * q_26.1 0 32 + 14) by omega) (show Int32.toInt (15 * q_26.1 0 32 + 14) < ((240 : Nat) : Int) by omega)) ?_
            have n_44 : ((Int32.toNatClampNeg (15 * q_26.1 0 32 + 14) : Nat) : Int) = Int32.toInt (15 * q_26.1 0 32 + 14) := cl_eq (by omega)
            refine dOk_L (fun q_45 eq_45 => ?_)
            have hTq_45 : TS q_45 := by rw [eq_45]; first | exact ts_set a_30 (by decide) (by simp only [tlo, klo]; omega) (by simp only [thi, khi]; omega) | exact ts_14x a_30 (by omega)
            have hFq_45 : dFr [14] [32] q q_45 := by rw [eq_45]; exact hFq_26.i (by decide) (by decide)
            refine dOk_L (fun q_46 eq_46 => ?_)
            have f_47 : 0 ≤ Int32.toInt (q_45.1 0 32) ∧ Int32.toInt (q_45.1 0 32) ≤ 16 := hTq_45.1 0 32
            try have w_48 : Int32.toInt (q_45.1 0 32) = Int32.toInt (q_26.1 0 32) := by rw [eq_45, dui_o (by decide)]
            try have t_49 : Int32.toInt (q_45.1 0 32 + 1) = Int32.toInt (q_45.1 0 32) + 1 := ti_add rfl (by decide) (by omega) (by omega)
            have hTq_46 : TS q_46 := by rw [eq_46]; exact ts_f hTq_45 (show 0 ≤ Int32.toInt (q_45.1 0 32 + 1) by omega) (show Int32.toInt (q_45.1 0 32 + 1) ≤ 16 by omega)
            have hFq_46 : dFr [14] [32] q q_46 := by rw [eq_46]; exact hFq_45.f (by decide)
            exact dOk_some (show (TS q_46) ∧ (dFr [14] [32] q q_46) from ⟨hTq_46, hFq_46⟩)
          · refine dOk_G (dg_ok (show 0 ≤ Int32.toInt x3_29 by omega) (show Int32.toInt x3_29 < ((5640 : Nat) : Int) by omega)) ?_
            have n_50 : ((Int32.toNatClampNeg x3_29 : Nat) : Int) = Int32.toInt x3_29 := cl_eq (by omega)
            refine dOk_L (fun v_51 ev_51 => ?_)
            try have g_52 : klo (Int32.toNatClampNeg x3_29) ≤ Int32.toInt v_51 ∧ Int32.toInt v_51 ≤ khi (Int32.toNatClampNeg x3_29) := by rw [ev_51]; exact te_k a_30 _
            try have f_53 : 0 ≤ Int32.toInt v_51 ∧ Int32.toInt v_51 ≤ 5 := by rw [ev_51]; exact te_2r a_30 (by omega) (by omega)
            try have f_54 : 0 ≤ Int32.toInt v_51 ∧ Int32.toInt v_51 ≤ 1 := by rw [ev_51]; exact te_2h a_30 (by omega) (by omega)
            try have f_55 : 0 ≤ Int32.toInt v_51 ∧ Int32.toInt v_51 ≤ 5 := by rw [ev_51]; exact te_2s a_30 (by omega) (by omega)
            try have f_56 : 0 ≤ Int32.toInt v_51 ∧ Int32.toInt v_51 ≤ 400 := by rw [ev_51]; exact te_2z a_30 (by omega) (by omega)
            have f_57 : 0 ≤ Int32.toInt (q_26.1 0 32) ∧ Int32.toInt (q_26.1 0 32) ≤ 16 := a_30.1 0 32
            have f_58 : 0 ≤ Int32.toInt (q_20.1 0 32) ∧ Int32.toInt (q_20.1 0 32) ≤ 16 := hTq_20.1 0 32
            have w_59 : Int32.toInt (q_20.1 0 32) = Int32.toInt (q_7.1 0 32 - 1) := by rw [eq_20, dui_e]
            have w_60 : Int32.toInt (q_26.1 0 32) = Int32.toInt (q_20.1 0 32) := by rw [a_31.2 32 (by decide)]
            try have t_61 : Int32.toInt (15 * q_26.1 0 32) = 15 * Int32.toInt (q_26.1 0 32) := ti_mul (by decide) rfl (by omega) (by omega)
            try have t_62 : Int32.toInt (15 * q_26.1 0 32 + x3_29) = Int32.toInt (15 * q_26.1 0 32) + Int32.toInt x3_29 := ti_add rfl rfl (by omega) (by omega)
            refine dOk_G (dg_ok (show 0 ≤ Int32.toInt (15 * q_26.1 0 32 + x3_29) by omega) (show Int32.toInt (15 * q_26.1 0 32 + x3_29) < ((240 : Nat) : Int) by omega)) ?_
            have n_63 : ((Int32.toNatClampNeg (15 * q_26.1 0 32 + x3_29) : Nat) : Int) = Int32.toInt (15 * q_26.1 0 32 + x3_29) := cl_eq (by omega)
            refine dOk_L (fun q_64 eq_64 => ?_)
            have hTq_64 : TS q_64 := by rw [eq_64]; first | exact ts_14 a_30 (show (Int32.toNatClampNeg (15 * q_26.1 0 32 + x3_29)) % 15 = Int32.toNatClampNeg x3_29 by omega) (by omega) g_52 | exact ts_set a_30 (by decide) (by simp only [tlo, klo]; omega) (by simp only [thi, khi]; omega) | exact ts_14x a_30 (by omega)
            have hFq_64 : dFr [14] [32] q q_64 := by rw [eq_64]; exact hFq_26.i (by decide) (by decide)
            try have t_65 : Int32.toInt (x3_29 + 1) = Int32.toInt x3_29 + 1 := ti_add rfl (by decide) (by omega) (by omega)
            exact hk_24 (q_64, p1, 15, (x3_29 + 1)) (show (TS q_64) ∧ (dFr [14] [] q_20 q_64) ∧ (p1 = p1) ∧ (15 = 15) ∧ (0 ≤ Int32.toInt (x3_29 + 1)) ∧ (Int32.toInt (x3_29 + 1) ≤ 14) from ⟨hTq_64, (by rw [eq_64]; exact (((dFr.rf : dFr [14] [] q_20 q_20).t a_31 (by decide) (by decide)) : dFr [14] [] q_20 q_26).i (by decide) (by decide)), rfl, rfl, by omega, by omega⟩) (show (14 - Int32.toInt (x3_29 + 1)).toNat < (14 - Int32.toInt x3_29).toNat by omega)
        · exact (show (TS q_20) ∧ (dFr [14] [] q_20 q_20) ∧ (p1 = p1) ∧ (15 = 15) ∧ (0 ≤ (0 : Int)) ∧ ((0 : Int) ≤ 14) from ⟨hTq_20, dFr.rf, rfl, rfl, by omega, by omega⟩)
        · show (14 - (0 : Int)).toNat < 1000000000000
          omega
      · try have t_66 : Int32.toInt (x3_10 + 15) = Int32.toInt x3_10 + 15 := ti_add rfl (by decide) (by omega) (by omega)
        refine dOk_G (dg_ok (show 0 ≤ Int32.toInt (x3_10 + 15) by omega) (show Int32.toInt (x3_10 + 15) < ((240 : Nat) : Int) by omega)) ?_
        have n_67 : ((Int32.toNatClampNeg (x3_10 + 15) : Nat) : Int) = Int32.toInt (x3_10 + 15) := cl_eq (by omega)
        refine dOk_L (fun v_68 ev_68 => ?_)
        try have g_69 : klo ((Int32.toNatClampNeg (x3_10 + 15)) % 15) ≤ Int32.toInt v_68 ∧ Int32.toInt v_68 ≤ khi ((Int32.toNatClampNeg (x3_10 + 15)) % 15) := by rw [ev_68]; exact te_14 a_11 (by omega)
        refine dOk_G (dg_ok (show 0 ≤ Int32.toInt x3_10 by omega) (show Int32.toInt x3_10 < ((240 : Nat) : Int) by omega)) ?_
        have n_70 : ((Int32.toNatClampNeg x3_10 : Nat) : Int) = Int32.toInt x3_10 := cl_eq (by omega)
        refine dOk_L (fun q_71 eq_71 => ?_)
        have hTq_71 : TS q_71 := by rw [eq_71]; exact ts_cp (s := Int32.toNatClampNeg (x3_10 + 15)) 14 14 (by decide) (by decide) a_11 a_11 (by omega) ev_68
        have hFq_71 : dFr [14] [32] q q_71 := by rw [eq_71]; exact hFq_7.i (by decide) (by decide)
        try have t_72 : Int32.toInt (x3_10 + 1) = Int32.toInt x3_10 + 1 := ti_add rfl (by decide) (by omega) (by omega)
        exact hk_5 (q_71, p1, 15, (x3_10 + 1)) (show (TS q_71) ∧ (dFr [14] [] q q_71) ∧ (p1 = p1) ∧ (15 = 15) ∧ (0 ≤ Int32.toInt (x3_10 + 1)) ∧ (Int32.toInt (x3_10 + 1) ≤ 225) from ⟨hTq_71, (by rw [eq_71]; exact (((dFr.rf : dFr [14] [] q q).t a_12 (by decide) (by decide)) : dFr [14] [] q q_7).i (by decide) (by decide)), rfl, rfl, by omega, by omega⟩) (show (225 - Int32.toInt (x3_10 + 1)).toNat < (225 - Int32.toInt x3_10).toNat by omega)
    · exact (show (TS q) ∧ (dFr [14] [] q q) ∧ (p1 = p1) ∧ (15 = 15) ∧ (0 ≤ (0 : Int)) ∧ ((0 : Int) ≤ 225) from ⟨hT, dFr.rf, rfl, rfl, by omega, by omega⟩)
    · show (225 - (0 : Int)).toNat < 1000000000000
      omega
  · unfold zX10_keeps_52
    unfold zX10_keeps_54
    refine dFix_ok (fun (a : dS × Int32 × Int32 × Int32) => (TS a.1) ∧ (dFr [14] [] q a.1) ∧ (a.2.1 = p1) ∧ (a.2.2.1 = 15) ∧ (0 ≤ Int32.toInt a.2.2.2) ∧ (Int32.toInt a.2.2.2 ≤ 14)) (fun (a : dS × Int32 × Int32 × Int32) => (14 - Int32.toInt a.2.2.2).toNat) ?_ _ ?_ _ (dF_gt ?_)
    · intro a ha k_74 hk_73
      obtain ⟨q_75, x1_76, x2_77, x3_78⟩ := a
      replace ha : (TS q_75) ∧ (dFr [14] [] q q_75) ∧ (x1_76 = p1) ∧ (x2_77 = 15) ∧ (0 ≤ Int32.toInt x3_78) ∧ (Int32.toInt x3_78 ≤ 14) := ha
      obtain ⟨a_79, a_80, a_81, a_82, a_83, a_84⟩ := ha
      show dOk (zX10_keeps_54b  (fun q x1 x2 x3 => k_74 (q, x1, x2, x3)) q_75 x1_76 x2_77 x3_78) _
      unfold zX10_keeps_54b
      have hFq_75 : dFr [14] [32] q q_75 := (dFr.rf (q := q)).t a_80 (by decide) (by decide)
      subst x1_76
      subst x2_77
      refine dOk_le (A := 14) (B := Int32.toInt x3_78) (by decide) rfl (fun c_85 => ?_) (fun c_86 => ?_)
      · have f_87 : 0 ≤ Int32.toInt (q_75.1 0 32) ∧ Int32.toInt (q_75.1 0 32) ≤ 16 := a_79.1 0 32
        have w_88 : Int32.toInt (q_75.1 0 32) = Int32.toInt (q.1 0 32) := by rw [a_80.2 32 (by decide)]
        try have t_89 : Int32.toInt (15 * q_75.1 0 32) = 15 * Int32.toInt (q_75.1 0 32) := ti_mul (by decide) rfl (by omega) (by omega)
        try have t_90 : Int32.toInt (15 * q_75.1 0 32 + 14) = Int32.toInt (15 * q_75.1 0 32) + 14 := ti_add rfl (by decide) (by omega) (by omega)
        refine dOk_G (dg_ok (show 0 ≤ Int32.toInt (15 * q_75.1 0 32 + 14) by omega) (show Int32.toInt (15 * q_75.1 0 32 + 14) < ((240 : Nat) : Int) by omega)) ?_
        have n_91 : ((Int32.toNatClampNeg (15 * q_75.1 0 32 + 14) : Nat) : Int) = Int32.toInt (15 * q_75.1 0 32 + 14) := cl_eq (by omega)
        refine dOk_L (fun q_92 eq_92 => ?_)
        have hTq_92 : TS q_92 := by rw [eq_92]; first | exact ts_set a_79 (by decide) (by simp only [tlo, klo]; omega) (by simp only [thi, khi]; omega) | exact ts_14x a_79 (by omega)
        have hFq_92 : dFr [14] [32] q q_92 := by rw [eq_92]; exact hFq_75.i (by decide) (by decide)
        refine dOk_L (fun q_93 eq_93 => ?_)
        have f_94 : 0 ≤ Int32.toInt (q_92.1 0 32) ∧ Int32.toInt (q_92.1 0 32) ≤ 16 := hTq_92.1 0 32
        try have w_95 : Int32.toInt (q_92.1 0 32) = Int32.toInt (q_75.1 0 32) := by rw [eq_92, dui_o (by decide)]
        try have t_96 : Int32.toInt (q_92.1 0 32 + 1) = Int32.toInt (q_92.1 0 32) + 1 := ti_add rfl (by decide) (by omega) (by omega)
        have hTq_93 : TS q_93 := by rw [eq_93]; exact ts_f hTq_92 (show 0 ≤ Int32.toInt (q_92.1 0 32 + 1) by omega) (show Int32.toInt (q_92.1 0 32 + 1) ≤ 16 by omega)
        have hFq_93 : dFr [14] [32] q q_93 := by rw [eq_93]; exact hFq_92.f (by decide)
        exact dOk_some (show (TS q_93) ∧ (dFr [14] [32] q q_93) from ⟨hTq_93, hFq_93⟩)
      · refine dOk_G (dg_ok (show 0 ≤ Int32.toInt x3_78 by omega) (show Int32.toInt x3_78 < ((5640 : Nat) : Int) by omega)) ?_
        have n_97 : ((Int32.toNatClampNeg x3_78 : Nat) : Int) = Int32.toInt x3_78 := cl_eq (by omega)
        refine dOk_L (fun v_98 ev_98 => ?_)
        try have g_99 : klo (Int32.toNatClampNeg x3_78) ≤ Int32.toInt v_98 ∧ Int32.toInt v_98 ≤ khi (Int32.toNatClampNeg x3_78) := by rw [ev_98]; exact te_k a_79 _
        try have f_100 : 0 ≤ Int32.toInt v_98 ∧ Int32.toInt v_98 ≤ 5 := by rw [ev_98]; exact te_2r a_79 (by omega) (by omega)
        try have f_101 : 0 ≤ Int32.toInt v_98 ∧ Int32.toInt v_98 ≤ 1 := by rw [ev_98]; exact te_2h a_79 (by omega) (by omega)
        try have f_102 : 0 ≤ Int32.toInt v_98 ∧ Int32.toInt v_98 ≤ 5 := by rw [ev_98]; exact te_2s a_79 (by omega) (by omega)
        try have f_103 : 0 ≤ Int32.toInt v_98 ∧ Int32.toInt v_98 ≤ 400 := by rw [ev_98]; exact te_2z a_79 (by omega) (by omega)
        have f_104 : 0 ≤ Int32.toInt (q_75.1 0 32) ∧ Int32.toInt (q_75.1 0 32) ≤ 16 := a_79.1 0 32
        have w_105 : Int32.toInt (q_75.1 0 32) = Int32.toInt (q.1 0 32) := by rw [a_80.2 32 (by decide)]
        try have t_106 : Int32.toInt (15 * q_75.1 0 32) = 15 * Int32.toInt (q_75.1 0 32) := ti_mul (by decide) rfl (by omega) (by omega)
        try have t_107 : Int32.toInt (15 * q_75.1 0 32 + x3_78) = Int32.toInt (15 * q_75.1 0 32) + Int32.toInt x3_78 := ti_add rfl rfl (by omega) (by omega)
        refine dOk_G (dg_ok (show 0 ≤ Int32.toInt (15 * q_75.1 0 32 + x3_78) by omega) (show Int32.toInt (15 * q_75.1 0 32 + x3_78) < ((240 : Nat) : Int) by omega)) ?_
        have n_108 : ((Int32.toNatClampNeg (15 * q_75.1 0 32 + x3_78) : Nat) : Int) = Int32.toInt (15 * q_75.1 0 32 + x3_78) := cl_eq (by omega)
        refine dOk_L (fun q_109 eq_109 => ?_)
        have hTq_109 : TS q_109 := by rw [eq_109]; first | exact ts_14 a_79 (show (Int32.toNatClampNeg (15 * q_75.1 0 32 + x3_78)) % 15 = Int32.toNatClampNeg x3_78 by omega) (by omega) g_99 | exact ts_set a_79 (by decide) (by simp only [tlo, klo]; omega) (by simp only [thi, khi]; omega) | exact ts_14x a_79 (by omega)
        have hFq_109 : dFr [14] [32] q q_109 := by rw [eq_109]; exact hFq_75.i (by decide) (by decide)
        try have t_110 : Int32.toInt (x3_78 + 1) = Int32.toInt x3_78 + 1 := ti_add rfl (by decide) (by omega) (by omega)
        exact hk_73 (q_109, p1, 15, (x3_78 + 1)) (show (TS q_109) ∧ (dFr [14] [] q q_109) ∧ (p1 = p1) ∧ (15 = 15) ∧ (0 ≤ Int32.toInt (x3_78 + 1)) ∧ (Int32.toInt (x3_78 + 1) ≤ 14) from ⟨hTq_109, (by rw [eq_109]; exact (((dFr.rf : dFr [14] [] q q).t a_80 (by decide) (by decide)) : dFr [14] [] q q_75).i (by decide) (by decide)), rfl, rfl, by omega, by omega⟩) (show (14 - Int32.toInt (x3_78 + 1)).toNat < (14 - Int32.toInt x3_78).toNat by omega)
    · exact (show (TS q) ∧ (dFr [14] [] q q) ∧ (p1 = p1) ∧ (15 = 15) ∧ (0 ≤ (0 : Int)) ∧ ((0 : Int) ≤ 14) from ⟨hT, dFr.rf, rfl, rfl, by omega, by omega⟩)
    · show (14 - (0 : Int)).toNat < 1000000000000
      omega

set_option maxHeartbeats 4000000 in
set_option maxRecDepth 100000 in
theorem ok_undo (q : dS) (hT : TS q) : dOk (zX10_undo q) (fun (o : Int32 × dS) => (TS o.2) ∧ (dFk [1, 2] [0, 32] q o.2)) := by
  unfold zX10_undo
  have f_1 : 0 ≤ Int32.toInt (q.1 0 32) ∧ Int32.toInt (q.1 0 32) ≤ 16 := hT.1 0 32
  refine dOk_eq (A := Int32.toInt (q.1 0 32)) (B := 0) rfl (by decide) (fun c_2z c_2 => ?_) (fun c_3z c_3 => ?_)
  · refine dOk_B (ok_refuses q (-3) hT (show (-6) ≤ (-3 : Int) by omega) (show (-3 : Int) ≤ 0 by omega)) (fun r_5 q_6 h_7 => ?_)
    replace h_7 : (TS q_6) ∧ (dFr [1] [0] q q_6) ∧ (Int32.toInt r_5 = (-3 : Int)) := h_7
    obtain ⟨i_8, i_9, i_10⟩ := h_7
    have hFq_6 : dFk [1, 2] [0, 32] q q_6 := (dFk.rf (q := q)).tr i_9 (by decide) (by decide) (by decide)
    exact dOk_some (show (TS q_6) ∧ (dFk [1, 2] [0, 32] q q_6) from ⟨i_8, hFq_6⟩)
  · refine dOk_L (fun q_11 eq_11 => ?_)
    try have t_12 : Int32.toInt (q.1 0 32 - 1) = Int32.toInt (q.1 0 32) - 1 := ti_sub rfl (by decide) (by omega) (by omega)
    have hTq_11 : TS q_11 := by rw [eq_11]; exact ts_f hT (show 0 ≤ Int32.toInt (q.1 0 32 - 1) by omega) (show Int32.toInt (q.1 0 32 - 1) ≤ 16 by omega)
    have hFq_11 : dFk [1, 2] [0, 32] q q_11 := by rw [eq_11]; exact (dFk.rf (q := q)).f (by decide)
    unfold zX10_undo_34
    refine dFix_ok (fun (a : dS × Int32 × Int32) => (TS a.1) ∧ (dFk [2] [] q_11 a.1) ∧ (a.2.1 = (15 * q_11.1 0 32)) ∧ (0 ≤ Int32.toInt a.2.2) ∧ (Int32.toInt a.2.2 ≤ 14)) (fun (a : dS × Int32 × Int32) => (14 - Int32.toInt a.2.2).toNat) ?_ _ ?_ _ (dF_gt ?_)
    · intro a ha k_14 hk_13
      obtain ⟨q_15, x1_16, x2_17⟩ := a
      replace ha : (TS q_15) ∧ (dFk [2] [] q_11 q_15) ∧ (x1_16 = (15 * q_11.1 0 32)) ∧ (0 ≤ Int32.toInt x2_17) ∧ (Int32.toInt x2_17 ≤ 14) := ha
      obtain ⟨a_18, a_19, a_20, a_21, a_22⟩ := ha
      show dOk (zX10_undo_34b  (fun q x1 x2 => k_14 (q, x1, x2)) q_15 x1_16 x2_17) _
      unfold zX10_undo_34b
      have hFq_15 : dFk [1, 2] [0, 32] q q_15 := hFq_11.t a_19 (by decide) (by decide)
      subst x1_16
      have f_23 : 0 ≤ Int32.toInt (q_11.1 0 32) ∧ Int32.toInt (q_11.1 0 32) ≤ 16 := hTq_11.1 0 32
      have w_24 : Int32.toInt (q_11.1 0 32) = Int32.toInt (q.1 0 32 - 1) := by rw [eq_11, dui_e]
      refine dOk_le (A := 14) (B := Int32.toInt x2_17) (by decide) rfl (fun c_25 => ?_) (fun c_26 => ?_)
      · try have t_27 : Int32.toInt (15 * q_11.1 0 32) = 15 * Int32.toInt (q_11.1 0 32) := ti_mul (by decide) rfl (by omega) (by omega)
        try have t_28 : Int32.toInt (15 * q_11.1 0 32 + 14) = Int32.toInt (15 * q_11.1 0 32) + 14 := ti_add rfl (by decide) (by omega) (by omega)
        refine dOk_G (dg_ok (show 0 ≤ Int32.toInt (15 * q_11.1 0 32 + 14) by omega) (show Int32.toInt (15 * q_11.1 0 32 + 14) < ((240 : Nat) : Int) by omega)) ?_
        have n_29 : ((Int32.toNatClampNeg (15 * q_11.1 0 32 + 14) : Nat) : Int) = Int32.toInt (15 * q_11.1 0 32 + 14) := cl_eq (by omega)
        refine dOk_L (fun v_30 ev_30 => ?_)
        try have g_31 : klo ((Int32.toNatClampNeg (15 * q_11.1 0 32 + 14)) % 15) ≤ Int32.toInt v_30 ∧ Int32.toInt v_30 ≤ khi ((Int32.toNatClampNeg (15 * q_11.1 0 32 + 14)) % 15) := by rw [ev_30]; exact te_14 a_18 (by omega)
        refine dOk_B (ok_good q_15 v_30 a_18) (fun r_32 q_33 h_34 => ?_)
        replace h_34 : (TS q_33) ∧ (dFr [] [0] q_15 q_33) ∧ (Int32.toInt r_32 = Int32.toInt v_30) := h_34
        obtain ⟨i_35, i_36, i_37⟩ := h_34
        have hFq_33 : dFk [1, 2] [0, 32] q q_33 := hFq_15.tr i_36 (by decide) (by decide) (by decide)
        exact dOk_some (show (TS q_33) ∧ (dFk [1, 2] [0, 32] q q_33) from ⟨i_35, hFq_33⟩)
      · try have t_38 : Int32.toInt (15 * q_11.1 0 32) = 15 * Int32.toInt (q_11.1 0 32) := ti_mul (by decide) rfl (by omega) (by omega)
        try have t_39 : Int32.toInt (15 * q_11.1 0 32 + x2_17) = Int32.toInt (15 * q_11.1 0 32) + Int32.toInt x2_17 := ti_add rfl rfl (by omega) (by omega)
        refine dOk_G (dg_ok (show 0 ≤ Int32.toInt (15 * q_11.1 0 32 + x2_17) by omega) (show Int32.toInt (15 * q_11.1 0 32 + x2_17) < ((240 : Nat) : Int) by omega)) ?_
        have n_40 : ((Int32.toNatClampNeg (15 * q_11.1 0 32 + x2_17) : Nat) : Int) = Int32.toInt (15 * q_11.1 0 32 + x2_17) := cl_eq (by omega)
        refine dOk_L (fun v_41 ev_41 => ?_)
        try have g_42 : klo ((Int32.toNatClampNeg (15 * q_11.1 0 32 + x2_17)) % 15) ≤ Int32.toInt v_41 ∧ Int32.toInt v_41 ≤ khi ((Int32.toNatClampNeg (15 * q_11.1 0 32 + x2_17)) % 15) := by rw [ev_41]; exact te_14 a_18 (by omega)
        refine dOk_G (dg_ok (show 0 ≤ Int32.toInt x2_17 by omega) (show Int32.toInt x2_17 < ((5640 : Nat) : Int) by omega)) ?_
        have n_43 : ((Int32.toNatClampNeg x2_17 : Nat) : Int) = Int32.toInt x2_17 := cl_eq (by omega)
        refine dOk_L (fun q_44 eq_44 => ?_)
        have hTq_44 : TS q_44 := by rw [eq_44]; first | exact ts_2c a_18 (by omega) (show Int32.toNatClampNeg x2_17 = (Int32.toNatClampNeg (15 * q_11.1 0 32 + x2_17)) % 15 by omega) g_42 | exact ts_set2 a_18 (by omega) (show klo (Int32.toNatClampNeg x2_17) ≤ Int32.toInt v_41 by unfold klo; omega) (show Int32.toInt v_41 ≤ khi (Int32.toNatClampNeg x2_17) by unfold khi; omega)
        have hFq_44 : dFk [1, 2] [0, 32] q q_44 := by rw [eq_44]; exact hFq_15.k (by omega) (by decide)
        try have t_45 : Int32.toInt (x2_17 + 1) = Int32.toInt x2_17 + 1 := ti_add rfl (by decide) (by omega) (by omega)
        exact hk_13 (q_44, (15 * q_11.1 0 32), (x2_17 + 1)) (show (TS q_44) ∧ (dFk [2] [] q_11 q_44) ∧ ((15 * q_11.1 0 32) = (15 * q_11.1 0 32)) ∧ (0 ≤ Int32.toInt (x2_17 + 1)) ∧ (Int32.toInt (x2_17 + 1) ≤ 14) from ⟨hTq_44, (by rw [eq_44]; exact (((dFk.rf : dFk [2] [] q_11 q_11).t a_19 (by decide) (by decide)) : dFk [2] [] q_11 q_15).k (by omega) (by decide)), rfl, by omega, by omega⟩) (show (14 - Int32.toInt (x2_17 + 1)).toNat < (14 - Int32.toInt x2_17).toNat by omega)
    · have f_46 : 0 ≤ Int32.toInt (q_11.1 0 32) ∧ Int32.toInt (q_11.1 0 32) ≤ 16 := hTq_11.1 0 32
      have w_47 : Int32.toInt (q_11.1 0 32) = Int32.toInt (q.1 0 32 - 1) := by rw [eq_11, dui_e]
      try have t_48 : Int32.toInt (15 * q_11.1 0 32) = 15 * Int32.toInt (q_11.1 0 32) := ti_mul (by decide) rfl (by omega) (by omega)
      exact (show (TS q_11) ∧ (dFk [2] [] q_11 q_11) ∧ ((15 * q_11.1 0 32) = (15 * q_11.1 0 32)) ∧ (0 ≤ (0 : Int)) ∧ ((0 : Int) ≤ 14) from ⟨hTq_11, dFk.rf, rfl, by omega, by omega⟩)
    · have f_49 : 0 ≤ Int32.toInt (q_11.1 0 32) ∧ Int32.toInt (q_11.1 0 32) ≤ 16 := hTq_11.1 0 32
      have w_50 : Int32.toInt (q_11.1 0 32) = Int32.toInt (q.1 0 32 - 1) := by rw [eq_11, dui_e]
      try have t_51 : Int32.toInt (15 * q_11.1 0 32) = 15 * Int32.toInt (q_11.1 0 32) := ti_mul (by decide) rfl (by omega) (by omega)
      show (14 - (0 : Int)).toNat < 1000000000000
      omega

set_option maxHeartbeats 4000000 in
set_option maxRecDepth 100000 in
theorem ok_goodOr (q : dS) (p1 : Int32) (hT : TS q) (hp0 : (-6) ≤ Int32.toInt p1) : dOk (zX10_goodOr q p1) (fun (o : Int32 × dS) => (TS o.2) ∧ (dFr [1] [0] q o.2) ∧ (Int32.toInt o.1 = Int32.toInt p1)) := by
  unfold zX10_goodOr
  refine dOk_le (A := 0) (B := Int32.toInt p1) (by decide) rfl (fun c_1 => ?_) (fun c_2 => ?_)
  · refine dOk_B (ok_good q p1 hT) (fun r_3 q_4 h_5 => ?_)
    replace h_5 : (TS q_4) ∧ (dFr [] [0] q q_4) ∧ (Int32.toInt r_3 = Int32.toInt p1) := h_5
    obtain ⟨i_6, i_7, i_8⟩ := h_5
    have hFq_4 : dFr [1] [0] q q_4 := (dFr.rf (q := q)).t i_7 (by decide) (by decide)
    unfold zX10_goodOr_17
    exact dOk_some (show (TS q_4) ∧ (dFr [1] [0] q q_4) ∧ (Int32.toInt r_3 = Int32.toInt p1) from ⟨i_6, hFq_4, by omega⟩)
  · refine dOk_B (ok_refuses q p1 hT (show (-6) ≤ Int32.toInt p1 by omega) (show Int32.toInt p1 ≤ 0 by omega)) (fun r_9 q_10 h_11 => ?_)
    replace h_11 : (TS q_10) ∧ (dFr [1] [0] q q_10) ∧ (Int32.toInt r_9 = Int32.toInt p1) := h_11
    obtain ⟨i_12, i_13, i_14⟩ := h_11
    have hFq_10 : dFr [1] [0] q q_10 := (dFr.rf (q := q)).t i_13 (by decide) (by decide)
    unfold zX10_goodOr_17
    exact dOk_some (show (TS q_10) ∧ (dFr [1] [0] q q_10) ∧ (Int32.toInt r_9 = Int32.toInt p1) from ⟨i_12, hFq_10, by omega⟩)

set_option maxHeartbeats 4000000 in
set_option maxRecDepth 100000 in
theorem ok_rightsKept (q : dS) (p1 : Int32) (hT : TS q) : dOk (zX10_rightsKept q p1) (fun (o : Int32 × dS) => (TS o.2) ∧ (dFk [2, 14] [32] q o.2) ∧ (-3 ≤ Int32.toInt o.1 ∧ Int32.toInt o.1 ≤ 99)) := by
  unfold zX10_rightsKept
  refine dOk_V (ok_lies p1 0 5) (fun r_1 h_2 => ?_)
  replace h_2 : ((Int32.toInt r_1 = 1 ∧ (0 : Int) ≤ Int32.toInt p1 ∧ Int32.toInt p1 ≤ (5 : Int)) ∨ (Int32.toInt r_1 = 0 ∧ (Int32.toInt p1 < (0 : Int) ∨ (5 : Int) < Int32.toInt p1))) := h_2
  have i_3 := h_2
  refine dOk_eq (A := Int32.toInt r_1) (B := 0) rfl (by decide) (fun c_4z c_4 => ?_) (fun c_5z c_5 => ?_)
  · exact dOk_some (show (TS q) ∧ (dFk [2, 14] [32] q q) ∧ (-3 ≤ (-1 : Int) ∧ (-1 : Int) ≤ 99) from ⟨hT, (dFk.rf (q := q)), by omega⟩)
  · refine dOk_B (ok_isPlace q p1 hT) (fun r_7 q_8 h_9 => ?_)
    replace h_9 : (q_8 = q) ∧ ((Int32.toInt r_7 = 1 ∧ 0 ≤ Int32.toInt p1 ∧ Int32.toInt p1 < Int32.toInt (q.1 2 29)) ∨ (Int32.toInt r_7 = 0 ∧ (Int32.toInt p1 < 0 ∨ Int32.toInt (q.1 2 29) ≤ Int32.toInt p1))) := h_9
    obtain ⟨i_10, i_11⟩ := h_9
    subst q_8
    have f_12 : 0 ≤ Int32.toInt (q.1 2 29) ∧ Int32.toInt (q.1 2 29) ≤ 6 := hT.1 2 29
    refine dOk_eq (A := Int32.toInt r_7) (B := 0) rfl (by decide) (fun c_13z c_13 => ?_) (fun c_14z c_14 => ?_)
    · exact dOk_some (show (TS q) ∧ (dFk [2, 14] [32] q q) ∧ (-3 ≤ (-3 : Int) ∧ (-3 : Int) ≤ 99) from ⟨hT, (dFk.rf (q := q)), by omega⟩)
    · refine dOk_V (ok_keeps q 1 hT) (fun q_16 h_17 => ?_)
      replace h_17 : (TS q_16) ∧ (dFr [14] [32] q q_16) := h_17
      obtain ⟨i_18, i_19⟩ := h_17
      have hFq_16 : dFk [2, 14] [32] q q_16 := (dFk.rf (q := q)).tr i_19 (by decide) (by decide) (by decide)
      try have t_20 : Int32.toInt (6 + p1) = 6 + Int32.toInt p1 := ti_add (by decide) rfl (by omega) (by omega)
      refine dOk_G (dg_ok (show 0 ≤ Int32.toInt (6 + p1) by omega) (show Int32.toInt (6 + p1) < ((5640 : Nat) : Int) by omega)) ?_
      have n_21 : ((Int32.toNatClampNeg (6 + p1) : Nat) : Int) = Int32.toInt (6 + p1) := cl_eq (by omega)
      refine dOk_L (fun v_22 ev_22 => ?_)
      try have g_23 : klo (Int32.toNatClampNeg (6 + p1)) ≤ Int32.toInt v_22 ∧ Int32.toInt v_22 ≤ khi (Int32.toNatClampNeg (6 + p1)) := by rw [ev_22]; exact te_k i_18 _
      try have f_24 : 0 ≤ Int32.toInt v_22 ∧ Int32.toInt v_22 ≤ 5 := by rw [ev_22]; exact te_2r i_18 (by omega) (by omega)
      try have f_25 : 0 ≤ Int32.toInt v_22 ∧ Int32.toInt v_22 ≤ 1 := by rw [ev_22]; exact te_2h i_18 (by omega) (by omega)
      try have f_26 : 0 ≤ Int32.toInt v_22 ∧ Int32.toInt v_22 ≤ 5 := by rw [ev_22]; exact te_2s i_18 (by omega) (by omega)
      try have f_27 : 0 ≤ Int32.toInt v_22 ∧ Int32.toInt v_22 ≤ 400 := by rw [ev_22]; exact te_2z i_18 (by omega) (by omega)
      refine dOk_G (dg_ok (show 0 ≤ Int32.toInt (6 + p1) by omega) (show Int32.toInt (6 + p1) < ((5640 : Nat) : Int) by omega)) ?_
      refine dOk_L (fun q_28 eq_28 => ?_)
      try have t_29 : Int32.toInt (1 - v_22) = 1 - Int32.toInt v_22 := ti_sub (by decide) rfl (by omega) (by omega)
      have hTq_28 : TS q_28 := by rw [eq_28]; exact ts_set2 i_18 (by omega) (show klo (Int32.toNatClampNeg (6 + p1)) ≤ Int32.toInt (1 - v_22) by unfold klo; omega) (show Int32.toInt (1 - v_22) ≤ khi (Int32.toNatClampNeg (6 + p1)) by unfold khi; omega)
      have hFq_28 : dFk [2, 14] [32] q q_28 := by rw [eq_28]; exact hFq_16.k (by omega) (by decide)
      refine dOk_G (dg_ok (show 0 ≤ Int32.toInt (6 + p1) by omega) (show Int32.toInt (6 + p1) < ((5640 : Nat) : Int) by omega)) ?_
      refine dOk_L (fun v_30 ev_30 => ?_)
      try have g_31 : klo (Int32.toNatClampNeg (6 + p1)) ≤ Int32.toInt v_30 ∧ Int32.toInt v_30 ≤ khi (Int32.toNatClampNeg (6 + p1)) := by rw [ev_30]; exact te_k hTq_28 _
      try have f_32 : 0 ≤ Int32.toInt v_30 ∧ Int32.toInt v_30 ≤ 5 := by rw [ev_30]; exact te_2r hTq_28 (by omega) (by omega)
      try have f_33 : 0 ≤ Int32.toInt v_30 ∧ Int32.toInt v_30 ≤ 1 := by rw [ev_30]; exact te_2h hTq_28 (by omega) (by omega)
      try have f_34 : 0 ≤ Int32.toInt v_30 ∧ Int32.toInt v_30 ≤ 5 := by rw [ev_30]; exact te_2s hTq_28 (by omega) (by omega)
      try have f_35 : 0 ≤ Int32.toInt v_30 ∧ Int32.toInt v_30 ≤ 400 := by rw [ev_30]; exact te_2z hTq_28 (by omega) (by omega)
      exact dOk_some (show (TS q_28) ∧ (dFk [2, 14] [32] q q_28) ∧ (-3 ≤ Int32.toInt v_30 ∧ Int32.toInt v_30 ≤ 99) from ⟨hTq_28, hFq_28, by omega⟩)

set_option maxHeartbeats 4000000 in
set_option maxRecDepth 100000 in
theorem ok_swapsKept (q : dS) (p1 : Int32) (hT : TS q) : dOk (zX10_swapsKept q p1) (fun (o : Int32 × dS) => (TS o.2) ∧ (dFk [2, 14] [32] q o.2) ∧ (-3 ≤ Int32.toInt o.1 ∧ Int32.toInt o.1 ≤ 99)) := by
  unfold zX10_swapsKept
  refine dOk_V (ok_lies p1 0 4) (fun r_1 h_2 => ?_)
  replace h_2 : ((Int32.toInt r_1 = 1 ∧ (0 : Int) ≤ Int32.toInt p1 ∧ Int32.toInt p1 ≤ (4 : Int)) ∨ (Int32.toInt r_1 = 0 ∧ (Int32.toInt p1 < (0 : Int) ∨ (4 : Int) < Int32.toInt p1))) := h_2
  have i_3 := h_2
  refine dOk_eq (A := Int32.toInt r_1) (B := 0) rfl (by decide) (fun c_4z c_4 => ?_) (fun c_5z c_5 => ?_)
  · exact dOk_some (show (TS q) ∧ (dFk [2, 14] [32] q q) ∧ (-3 ≤ (-1 : Int) ∧ (-1 : Int) ≤ 99) from ⟨hT, (dFk.rf (q := q)), by omega⟩)
  · try have t_7 : Int32.toInt (p1 + 1) = Int32.toInt p1 + 1 := ti_add rfl (by decide) (by omega) (by omega)
    refine dOk_B (ok_isPlace q (p1 + 1) hT) (fun r_8 q_9 h_10 => ?_)
    replace h_10 : (q_9 = q) ∧ ((Int32.toInt r_8 = 1 ∧ 0 ≤ Int32.toInt (p1 + 1) ∧ Int32.toInt (p1 + 1) < Int32.toInt (q.1 2 29)) ∨ (Int32.toInt r_8 = 0 ∧ (Int32.toInt (p1 + 1) < 0 ∨ Int32.toInt (q.1 2 29) ≤ Int32.toInt (p1 + 1)))) := h_10
    obtain ⟨i_11, i_12⟩ := h_10
    subst q_9
    have f_13 : 0 ≤ Int32.toInt (q.1 2 29) ∧ Int32.toInt (q.1 2 29) ≤ 6 := hT.1 2 29
    refine dOk_eq (A := Int32.toInt r_8) (B := 0) rfl (by decide) (fun c_14z c_14 => ?_) (fun c_15z c_15 => ?_)
    · exact dOk_some (show (TS q) ∧ (dFk [2, 14] [32] q q) ∧ (-3 ≤ (-3 : Int) ∧ (-3 : Int) ≤ 99) from ⟨hT, (dFk.rf (q := q)), by omega⟩)
    · refine dOk_V (ok_keeps q 2 hT) (fun q_17 h_18 => ?_)
      replace h_18 : (TS q_17) ∧ (dFr [14] [32] q q_17) := h_18
      obtain ⟨i_19, i_20⟩ := h_18
      have hFq_17 : dFk [2, 14] [32] q q_17 := (dFk.rf (q := q)).tr i_20 (by decide) (by decide) (by decide)
      refine dOk_V (ok_exchanges q_17 p1 (p1 + 1) i_19 (show 0 ≤ Int32.toInt p1 ∧ Int32.toInt p1 ≤ 5 by omega) (show 0 ≤ Int32.toInt (p1 + 1) ∧ Int32.toInt (p1 + 1) ≤ 5 by omega)) (fun q_21 h_22 => ?_)
      replace h_22 : (TS q_21) ∧ (dFk [2] [] q_17 q_21) ∧ (Int32.toInt (q_21.1 2 12) = Int32.toInt (q_17.1 2 12)) ∧ (Int32.toInt (q_21.1 2 13) = Int32.toInt (q_17.1 2 13)) ∧ (Int32.toInt (q_21.1 2 29) = Int32.toInt (q_17.1 2 29)) := h_22
      obtain ⟨i_23, i_24, i_25, i_26, i_27⟩ := h_22
      have hFq_21 : dFk [2, 14] [32] q q_21 := hFq_17.t i_24 (by decide) (by decide)
      have f_28 : 0 ≤ Int32.toInt (q_21.1 2 12) ∧ Int32.toInt (q_21.1 2 12) ≤ 9999 := i_23.1 2 12
      have f_29 : 0 ≤ Int32.toInt (q_17.1 2 12) ∧ Int32.toInt (q_17.1 2 12) ≤ 9999 := i_19.1 2 12
      have f_30 : 0 ≤ Int32.toInt (q.1 2 12) ∧ Int32.toInt (q.1 2 12) ≤ 9999 := hT.1 2 12
      have w_31 : Int32.toInt (q_17.1 2 12) = Int32.toInt (q.1 2 12) := by rw [i_20.1 2 (by decide) (by decide)]
      have f_32 : 0 ≤ Int32.toInt (q_21.1 2 13) ∧ Int32.toInt (q_21.1 2 13) ≤ 999 := i_23.1 2 13
      have f_33 : 0 ≤ Int32.toInt (q_17.1 2 13) ∧ Int32.toInt (q_17.1 2 13) ≤ 999 := i_19.1 2 13
      have f_34 : 0 ≤ Int32.toInt (q.1 2 13) ∧ Int32.toInt (q.1 2 13) ≤ 999 := hT.1 2 13
      have w_35 : Int32.toInt (q_17.1 2 13) = Int32.toInt (q.1 2 13) := by rw [i_20.1 2 (by decide) (by decide)]
      have f_36 : 0 ≤ Int32.toInt (q_21.1 2 29) ∧ Int32.toInt (q_21.1 2 29) ≤ 6 := i_23.1 2 29
      have f_37 : 0 ≤ Int32.toInt (q_17.1 2 29) ∧ Int32.toInt (q_17.1 2 29) ≤ 6 := i_19.1 2 29
      have w_38 : Int32.toInt (q_17.1 2 29) = Int32.toInt (q.1 2 29) := by rw [i_20.1 2 (by decide) (by decide)]
      have w_39 : Int32.toInt (q_21.1 2 29) = Int32.toInt (q_17.1 2 29) := by rw [i_24.2 29 (by decide)]
      try have t_40 : Int32.toInt (0 + p1) = 0 + Int32.toInt p1 := ti_add (by decide) rfl (by omega) (by omega)
      refine dOk_G (dg_ok (show 0 ≤ Int32.toInt (0 + p1) by omega) (show Int32.toInt (0 + p1) < ((5640 : Nat) : Int) by omega)) ?_
      have n_41 : ((Int32.toNatClampNeg (0 + p1) : Nat) : Int) = Int32.toInt (0 + p1) := cl_eq (by omega)
      refine dOk_L (fun v_42 ev_42 => ?_)
      try have g_43 : klo (Int32.toNatClampNeg (0 + p1)) ≤ Int32.toInt v_42 ∧ Int32.toInt v_42 ≤ khi (Int32.toNatClampNeg (0 + p1)) := by rw [ev_42]; exact te_k i_23 _
      try have f_44 : 0 ≤ Int32.toInt v_42 ∧ Int32.toInt v_42 ≤ 5 := by rw [ev_42]; exact te_2r i_23 (by omega) (by omega)
      try have f_45 : 0 ≤ Int32.toInt v_42 ∧ Int32.toInt v_42 ≤ 1 := by rw [ev_42]; exact te_2h i_23 (by omega) (by omega)
      try have f_46 : 0 ≤ Int32.toInt v_42 ∧ Int32.toInt v_42 ≤ 5 := by rw [ev_42]; exact te_2s i_23 (by omega) (by omega)
      try have f_47 : 0 ≤ Int32.toInt v_42 ∧ Int32.toInt v_42 ≤ 400 := by rw [ev_42]; exact te_2z i_23 (by omega) (by omega)
      exact dOk_some (show (TS q_21) ∧ (dFk [2, 14] [32] q q_21) ∧ (-3 ≤ Int32.toInt v_42 ∧ Int32.toInt v_42 ≤ 99) from ⟨i_23, hFq_21, by omega⟩)

set_option maxHeartbeats 4000000 in
set_option maxRecDepth 100000 in
theorem ok_right (q : dS) (p1 : Int32) (hT : TS q) : dOk (zX10_right q p1) (fun (o : Int32 × dS) => (TS o.2) ∧ (dFk [1, 2, 14] [0, 32] q o.2)) := by
  unfold zX10_right
  refine dOk_B (ok_rightsKept q p1 hT) (fun r_1 q_2 h_3 => ?_)
  replace h_3 : (TS q_2) ∧ (dFk [2, 14] [32] q q_2) ∧ (-3 ≤ Int32.toInt r_1 ∧ Int32.toInt r_1 ≤ 99) := h_3
  obtain ⟨i_4, i_5, i_6⟩ := h_3
  have hFq_2 : dFk [1, 2, 14] [0, 32] q q_2 := (dFk.rf (q := q)).t i_5 (by decide) (by decide)
  refine dOk_B (ok_goodOr q_2 r_1 i_4 (show (-6) ≤ Int32.toInt r_1 by omega)) (fun r_7 q_8 h_9 => ?_)
  replace h_9 : (TS q_8) ∧ (dFr [1] [0] q_2 q_8) ∧ (Int32.toInt r_7 = Int32.toInt r_1) := h_9
  obtain ⟨i_10, i_11, i_12⟩ := h_9
  have hFq_8 : dFk [1, 2, 14] [0, 32] q q_8 := hFq_2.tr i_11 (by decide) (by decide) (by decide)
  exact dOk_some (show (TS q_8) ∧ (dFk [1, 2, 14] [0, 32] q q_8) from ⟨i_10, hFq_8⟩)

set_option maxHeartbeats 4000000 in
set_option maxRecDepth 100000 in
theorem ok_swap (q : dS) (p1 : Int32) (hT : TS q) : dOk (zX10_swap q p1) (fun (o : Int32 × dS) => (TS o.2) ∧ (dFk [1, 2, 14] [0, 32] q o.2)) := by
  unfold zX10_swap
  refine dOk_B (ok_swapsKept q p1 hT) (fun r_1 q_2 h_3 => ?_)
  replace h_3 : (TS q_2) ∧ (dFk [2, 14] [32] q q_2) ∧ (-3 ≤ Int32.toInt r_1 ∧ Int32.toInt r_1 ≤ 99) := h_3
  obtain ⟨i_4, i_5, i_6⟩ := h_3
  have hFq_2 : dFk [1, 2, 14] [0, 32] q q_2 := (dFk.rf (q := q)).t i_5 (by decide) (by decide)
  refine dOk_B (ok_goodOr q_2 r_1 i_4 (show (-6) ≤ Int32.toInt r_1 by omega)) (fun r_7 q_8 h_9 => ?_)
  replace h_9 : (TS q_8) ∧ (dFr [1] [0] q_2 q_8) ∧ (Int32.toInt r_7 = Int32.toInt r_1) := h_9
  obtain ⟨i_10, i_11, i_12⟩ := h_9
  have hFq_8 : dFk [1, 2, 14] [0, 32] q q_8 := hFq_2.tr i_11 (by decide) (by decide) (by decide)
  exact dOk_some (show (TS q_8) ∧ (dFk [1, 2, 14] [0, 32] q q_8) from ⟨i_10, hFq_8⟩)

set_option maxHeartbeats 4000000 in
set_option maxRecDepth 100000 in
theorem ok_allOrders (p1 : Int32) (hp0 : Int32.toInt p1 ≤ 6) : dOk (zX10_allOrders p1) (fun (o : Int32) => (((Int32.toInt p1 ≤ 1 ∧ Int32.toInt o = 1) ∨ (Int32.toInt p1 = 2 ∧ Int32.toInt o = 2) ∨ (Int32.toInt p1 = 3 ∧ Int32.toInt o = 6) ∨ (Int32.toInt p1 = 4 ∧ Int32.toInt o = 24) ∨ (Int32.toInt p1 = 5 ∧ Int32.toInt o = 120) ∨ (Int32.toInt p1 = 6 ∧ Int32.toInt o = 720)))) := by
  unfold zX10_allOrders
  unfold zX10_allOrders_4
  refine dFix_ok (fun (a : Int32 × Int32 × Int32) => (a.1 = p1) ∧ (((Int32.toInt a.2.2 = 2 ∧ Int32.toInt a.2.1 = 1) ∨ (Int32.toInt a.2.2 = 3 ∧ Int32.toInt a.2.1 = 2) ∨ (Int32.toInt a.2.2 = 4 ∧ Int32.toInt a.2.1 = 6) ∨ (Int32.toInt a.2.2 = 5 ∧ Int32.toInt a.2.1 = 24) ∨ (Int32.toInt a.2.2 = 6 ∧ Int32.toInt a.2.1 = 120) ∨ (Int32.toInt a.2.2 = 7 ∧ Int32.toInt a.2.1 = 720))) ∧ (Int32.toInt a.2.2 ≤ 2 ∨ Int32.toInt a.2.2 ≤ Int32.toInt a.1 + 1)) (fun (a : Int32 × Int32 × Int32) => (8 - Int32.toInt a.2.2).toNat) ?_ _ ?_ _ (dF_gt ?_)
  · intro a ha k_2 hk_1
    obtain ⟨x0_3, x1_4, x2_5⟩ := a
    replace ha : (x0_3 = p1) ∧ (((Int32.toInt x2_5 = 2 ∧ Int32.toInt x1_4 = 1) ∨ (Int32.toInt x2_5 = 3 ∧ Int32.toInt x1_4 = 2) ∨ (Int32.toInt x2_5 = 4 ∧ Int32.toInt x1_4 = 6) ∨ (Int32.toInt x2_5 = 5 ∧ Int32.toInt x1_4 = 24) ∨ (Int32.toInt x2_5 = 6 ∧ Int32.toInt x1_4 = 120) ∨ (Int32.toInt x2_5 = 7 ∧ Int32.toInt x1_4 = 720))) ∧ (Int32.toInt x2_5 ≤ 2 ∨ Int32.toInt x2_5 ≤ Int32.toInt x0_3 + 1) := ha
    obtain ⟨a_6, a_7, a_8⟩ := ha
    show dOk (zX10_allOrders_4b  (fun x0 x1 x2 => k_2 (x0, x1, x2)) x0_3 x1_4 x2_5) _
    unfold zX10_allOrders_4b
    subst x0_3
    have zz := fac_step (x1 := x1_4) (x2 := x2_5) (by omega)
    refine dOk_lt (A := Int32.toInt p1) (B := Int32.toInt x2_5) rfl rfl (fun c_9 => ?_) (fun c_10 => ?_)
    · exact dOk_some (show (((Int32.toInt p1 ≤ 1 ∧ Int32.toInt x1_4 = 1) ∨ (Int32.toInt p1 = 2 ∧ Int32.toInt x1_4 = 2) ∨ (Int32.toInt p1 = 3 ∧ Int32.toInt x1_4 = 6) ∨ (Int32.toInt p1 = 4 ∧ Int32.toInt x1_4 = 24) ∨ (Int32.toInt p1 = 5 ∧ Int32.toInt x1_4 = 120) ∨ (Int32.toInt p1 = 6 ∧ Int32.toInt x1_4 = 720))) from (by omega))
    · try have t_11 : Int32.toInt (x1_4 * x2_5) = Int32.toInt x1_4 * Int32.toInt x2_5 := ti_mul rfl rfl (by omega) (by omega)
      try have t_12 : Int32.toInt (x2_5 + 1) = Int32.toInt x2_5 + 1 := ti_add rfl (by decide) (by omega) (by omega)
      exact hk_1 (p1, (x1_4 * x2_5), (x2_5 + 1)) (show (p1 = p1) ∧ (((Int32.toInt (x2_5 + 1) = 2 ∧ Int32.toInt (x1_4 * x2_5) = 1) ∨ (Int32.toInt (x2_5 + 1) = 3 ∧ Int32.toInt (x1_4 * x2_5) = 2) ∨ (Int32.toInt (x2_5 + 1) = 4 ∧ Int32.toInt (x1_4 * x2_5) = 6) ∨ (Int32.toInt (x2_5 + 1) = 5 ∧ Int32.toInt (x1_4 * x2_5) = 24) ∨ (Int32.toInt (x2_5 + 1) = 6 ∧ Int32.toInt (x1_4 * x2_5) = 120) ∨ (Int32.toInt (x2_5 + 1) = 7 ∧ Int32.toInt (x1_4 * x2_5) = 720))) ∧ (Int32.toInt (x2_5 + 1) ≤ 2 ∨ Int32.toInt (x2_5 + 1) ≤ Int32.toInt p1 + 1) from ⟨rfl, by omega, by omega⟩) (show (8 - Int32.toInt (x2_5 + 1)).toNat < (8 - Int32.toInt x2_5).toNat by omega)
  · exact (show (p1 = p1) ∧ ((((2 : Int) = 2 ∧ (1 : Int) = 1) ∨ ((2 : Int) = 3 ∧ (1 : Int) = 2) ∨ ((2 : Int) = 4 ∧ (1 : Int) = 6) ∨ ((2 : Int) = 5 ∧ (1 : Int) = 24) ∨ ((2 : Int) = 6 ∧ (1 : Int) = 120) ∨ ((2 : Int) = 7 ∧ (1 : Int) = 720))) ∧ ((2 : Int) ≤ 2 ∨ (2 : Int) ≤ Int32.toInt p1 + 1) from ⟨rfl, by omega, by omega⟩)
  · show (8 - (2 : Int)).toNat < 1000000000000
    omega
end
