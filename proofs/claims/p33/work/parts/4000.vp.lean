section
/-! the pure phase: that a function answers, and what -/
def dOk {α : Type} (x : Option α) (P : α → Prop) : Prop := ∃ o : α, x = some o ∧ P o
theorem dOk_some {α : Type} {o : α} {P : α → Prop} (h : P o) : dOk (some o) P := ⟨o, rfl, h⟩
theorem dOk_mono {α : Type} {x : Option α} {P Q : α → Prop} (h : dOk x P) (k : ∀ o : α, P o → Q o) : dOk x Q := by
  obtain ⟨o, e, h⟩ := h
  exact ⟨o, e, k o h⟩
theorem dOk_G {α : Type} {b : Bool} {x : Option α} {P : α → Prop} (hb : b = true) (h : dOk x P) : dOk (dG b x) P := by
  subst hb
  exact h
theorem dOk_L {α β : Type} {v : α} {k : α → Option β} {P : β → Prop} (h : ∀ y : α, y = v → dOk (k y) P) : dOk (dL v k) P := h v rfl
theorem dOk_B {α β γ : Type} {x : Option (α × β)} {k : α → β → Option γ} {R : α × β → Prop} {P : γ → Prop} (h : dOk x R) (hk : ∀ (a : α) (b : β), R (a, b) → dOk (k a b) P) : dOk (dB x k) P := by
  obtain ⟨⟨a, b⟩, e, h⟩ := h
  subst e
  exact hk a b h
theorem dOk_V {α β : Type} {x : Option α} {k : α → Option β} {R : α → Prop} {P : β → Prop} (h : dOk x R) (hk : ∀ a : α, R a → dOk (k a) P) : dOk (dV x k) P := by
  obtain ⟨a, e, h⟩ := h
  subst e
  exact hk a h
theorem dOk_lt {β : Type} {a b : Int32} {A B : Int} {x y : Option β} {P : β → Prop} (ha : a.toInt = A) (hb : b.toInt = B) (h1 : A < B → dOk x P) (h2 : B ≤ A → dOk y P) : dOk (if a < b then x else y) P := by
  subst ha hb
  by_cases c : a < b
  · rw [if_pos c]; exact h1 (Int32.lt_iff_toInt_lt.mp c)
  · rw [if_neg c]; exact h2 (Int.not_lt.mp (fun z => c (Int32.lt_iff_toInt_lt.mpr z)))
theorem dOk_le {β : Type} {a b : Int32} {A B : Int} {x y : Option β} {P : β → Prop} (ha : a.toInt = A) (hb : b.toInt = B) (h1 : A ≤ B → dOk x P) (h2 : B < A → dOk y P) : dOk (if a ≤ b then x else y) P := by
  subst ha hb
  by_cases c : a ≤ b
  · rw [if_pos c]; exact h1 (Int32.le_iff_toInt_le.mp c)
  · rw [if_neg c]; exact h2 (Int.not_le.mp (fun z => c (Int32.le_iff_toInt_le.mpr z)))
theorem dOk_eq {β : Type} {a b : Int32} {A B : Int} {x y : Option β} {P : β → Prop} (ha : a.toInt = A) (hb : b.toInt = B) (h1 : a = b → A = B → dOk x P) (h2 : ¬ a = b → ¬ A = B → dOk y P) : dOk (if a = b then x else y) P := by
  subst ha hb
  by_cases c : a = b
  · rw [if_pos c]; exact h1 c (by rw [c])
  · rw [if_neg c]; exact h2 c (fun z => c (Int32.toInt_inj.mp z))
theorem dFix_ok {α β : Type} {F : (α → Option β) → α → Option β} {P : β → Prop} (I : α → Prop) (μ : α → Nat)
    (h : ∀ a : α, I a → ∀ k : α → Option β, (∀ a' : α, I a' → μ a' < μ a → dOk (k a') P) → dOk (F k a) P) :
    ∀ a : α, I a → ∀ n : Nat, μ a < n → dOk (dFix F n a) P := by
  intro a ha n
  induction n generalizing a with
  | zero => intro hn; omega
  | succ n ih =>
    intro hn
    exact h a ha (dFix F n) (fun a' ha' hm => ih a' ha' (by omega))
theorem dF_gt {m : Nat} (h : m < 1000000000000) : m < dF := Nat.lt_of_lt_of_le h dF_ge
/-! numbers as integers -/
theorem ti_add {a b : Int32} {A B : Int} (ha : a.toInt = A) (hb : b.toInt = B) (h1 : -2147483648 ≤ A + B) (h2 : A + B ≤ 2147483647) : (a + b).toInt = A + B := by
  rw [Int32.toInt_add, ha, hb]
  exact Int.bmod_eq_of_le (by omega) (by omega)
theorem ti_sub {a b : Int32} {A B : Int} (ha : a.toInt = A) (hb : b.toInt = B) (h1 : -2147483648 ≤ A - B) (h2 : A - B ≤ 2147483647) : (a - b).toInt = A - B := by
  rw [Int32.toInt_sub, ha, hb]
  exact Int.bmod_eq_of_le (by omega) (by omega)
theorem ti_mul {a b : Int32} {A B : Int} (ha : a.toInt = A) (hb : b.toInt = B) (h1 : -2147483648 ≤ A * B) (h2 : A * B ≤ 2147483647) : (a * b).toInt = A * B := by
  rw [Int32.toInt_mul, ha, hb]
  exact Int.bmod_eq_of_le (by omega) (by omega)
theorem ti_neg {a : Int32} {A : Int} (ha : a.toInt = A) (h1 : -2147483648 ≤ -A) (h2 : -A ≤ 2147483647) : (-a).toInt = -A := by
  rw [Int32.toInt_neg, ha]
  exact Int.bmod_eq_of_le (by omega) (by omega)
theorem ti_div {a b : Int32} {A B : Int} (ha : a.toInt = A) (hb : b.toInt = B) (h1 : 0 ≤ A) (h2 : 0 < B) : (a / b).toInt = A / B := by
  have h3 := a.toInt_lt
  have h4 : A / B ≤ A := Int.ediv_le_self B h1
  have h5 : 0 ≤ A / B := Int.ediv_nonneg h1 (Int.le_of_lt h2)
  rw [Int32.toInt_div, ha, hb, Int.tdiv_eq_ediv_of_nonneg h1]
  exact Int.bmod_eq_of_le (by omega) (by omega)
theorem ti_rem {a b : Int32} {A B : Int} (ha : a.toInt = A) (hb : b.toInt = B) (h1 : 0 ≤ A) (h2 : 0 < B) : (a - a / b * b).toInt = A % B := by
  have h3 := a.toInt_lt
  have h0 := ti_div ha hb h1 h2
  have h4 : A / B * B ≤ A := Int.ediv_mul_le A (by omega)
  have h5 : 0 ≤ A / B := Int.ediv_nonneg h1 (Int.le_of_lt h2)
  have h6 : 0 ≤ A / B * B := Int.mul_nonneg h5 (Int.le_of_lt h2)
  have h7 : (a / b * b).toInt = A / B * B := ti_mul h0 hb (by omega) (by omega)
  rw [ti_sub ha h7 (by omega) (by omega)]
  have h8 := Int.mul_ediv_add_emod A B
  rw [Int.mul_comm] at h8
  omega
theorem ti_rg (x : Int32) : -2147483648 ≤ x.toInt ∧ x.toInt ≤ 2147483647 := by
  have h1 := x.le_toInt
  have h2 := x.toInt_lt
  omega
theorem ti_and1 (x : Int32) : 0 ≤ (x &&& 1).toInt ∧ (x &&& 1).toInt ≤ 1 := by
  have h := pk_and x (m := 1) 1 (by decide)
  rw [h, nI_toInt (by omega)]
  omega
theorem ti_and255 (x : Int32) : 0 ≤ (x &&& 255).toInt ∧ (x &&& 255).toInt ≤ 255 := by
  have h := pk_and x (m := 255) 8 (by decide)
  rw [h, nI_toInt (by omega)]
  omega
theorem ti_nI {x : Int32} (h : 0 ≤ x.toInt) : ∃ n : Nat, x = nI n ∧ (n : Int) = x.toInt ∧ n < 2147483648 := by
  have h2 := ti_rg x
  refine ⟨x.toInt.toNat, ?_, by omega, by omega⟩
  apply Int32.toInt_inj.mp
  rw [nI_toInt (by omega)]
  omega
theorem nI_or (a b : Nat) : nI a ||| nI b = nI (a ||| b) := by
  apply Int32.toBitVec_inj.1
  show BitVec.ofNat 32 a ||| BitVec.ofNat 32 b = BitVec.ofNat 32 (a ||| b)
  apply BitVec.eq_of_getLsbD_eq
  intro i hi
  simp [hi]
theorem ti_or {x y : Int32} (k : Nat) (hk : k < 31) (hx : 0 ≤ x.toInt) (hx2 : x.toInt < 2 ^ k) (hy : 0 ≤ y.toInt) (hy2 : y.toInt < 2 ^ k) : 0 ≤ (x ||| y).toInt ∧ (x ||| y).toInt < 2 ^ k := by
  obtain ⟨n, rfl, hn, hn2⟩ := ti_nI hx
  obtain ⟨m, rfl, hm, hm2⟩ := ti_nI hy
  rw [nI_or]
  have e1 : n < 2 ^ k := by rw [← hn] at hx2; exact_mod_cast hx2
  have e2 : m < 2 ^ k := by rw [← hm] at hy2; exact_mod_cast hy2
  have e3 : n ||| m < 2 ^ k := Nat.or_lt_two_pow e1 e2
  have e4 : 2 ^ k < 2 ^ 31 := Nat.pow_lt_pow_right (by decide) hk
  rw [nI_toInt (by omega)]
  refine ⟨by omega, ?_⟩
  exact_mod_cast e3
theorem sh_bit : ∀ n : Nat, n < 2 → ∀ k : Nat, k < 7 → nI n <<< (nI k &&& 31) = nI (n * 2 ^ k) := by decide +kernel
theorem ti_shl {x s : Int32} (hx : 0 ≤ x.toInt) (hx2 : x.toInt ≤ 1) (hs : 0 ≤ s.toInt) (hs2 : s.toInt ≤ 6) : (x <<< (s &&& 31)).toInt = x.toInt * 2 ^ s.toInt.toNat := by
  obtain ⟨n, rfl, hn, hn2⟩ := ti_nI hx
  obtain ⟨m, rfl, hm, hm2⟩ := ti_nI hs
  rw [sh_bit n (by omega) m (by omega)]
  have h2 : (2 : Nat) ^ m ≤ 2 ^ 6 := Nat.pow_le_pow_right (by decide) (by omega)
  have h3 : n * 2 ^ m ≤ 1 * 2 ^ 6 := Nat.mul_le_mul (by omega) h2
  rw [nI_toInt (by omega), ← hn, ← hm]
  simp
theorem ti_pw {n : Nat} (h : n ≤ 6) : (n = 0 ∧ (2 : Int) ^ n = 1) ∨ (n = 1 ∧ (2 : Int) ^ n = 2) ∨ (n = 2 ∧ (2 : Int) ^ n = 4) ∨ (n = 3 ∧ (2 : Int) ^ n = 8) ∨ (n = 4 ∧ (2 : Int) ^ n = 16) ∨ (n = 5 ∧ (2 : Int) ^ n = 32) ∨ (n = 6 ∧ (2 : Int) ^ n = 64) := by
  have : ∀ n : Nat, n ≤ 6 → (n = 0 ∧ (2 : Int) ^ n = 1) ∨ (n = 1 ∧ (2 : Int) ^ n = 2) ∨ (n = 2 ∧ (2 : Int) ^ n = 4) ∨ (n = 3 ∧ (2 : Int) ^ n = 8) ∨ (n = 4 ∧ (2 : Int) ^ n = 16) ∨ (n = 5 ∧ (2 : Int) ^ n = 32) ∨ (n = 6 ∧ (2 : Int) ^ n = 64) := by decide +kernel
  exact this n h
/-! guards -/
theorem dg_ok {i : Int32} {n : Nat} (h0 : 0 ≤ i.toInt) (h1 : i.toInt < n) : dg i n = true := by
  apply decide_eq_true
  intro h
  rcases h with h | h
  · have h2 := Int32.lt_iff_toInt_lt.mp h
    have h3 : (0 : Int32).toInt = 0 := rfl
    omega
  · have h2 : i.toNatClampNeg = i.toInt.toNat := rfl
    omega
theorem cl_eq {i : Int32} (h : 0 ≤ i.toInt) : ((i.toNatClampNeg : Nat) : Int) = i.toInt := by
  have h2 : i.toNatClampNeg = i.toInt.toNat := rfl
  omega
theorem dbl_ok {v : Int32} (h : v.toInt = 0 ∨ v.toInt = 1) : dbl v = true := by
  apply decide_eq_true
  rcases h with h | h
  · exact Or.inl (Int32.toInt_inj.mp h)
  · exact Or.inr (Int32.toInt_inj.mp h)
theorem dnz_ok {v : Int32} (h : ¬ v.toInt = 0) : dnz v = true := by
  apply decide_eq_true
  intro z
  subst z
  exact h rfl
theorem dnl_ok {v : Int64} (h : ¬ v = 0) : dnl v = true := decide_eq_true h
/-! stores -/
theorem dui_o {q : dS} {j k j' : Nat} {v : Int32} (h : ¬ j' = j) : (dui q j k v).1 j' = q.1 j' := if_neg h
theorem dui_s {q : dS} {j k : Nat} {v : Int32} : (dui q j k v).1 j = upd (q.1 j) k v := if_pos rfl
theorem dui_n {q : dS} {j k i : Nat} {v : Int32} (h : ¬ i = k) : (dui q j k v).1 j i = q.1 j i := by rw [dui_s]; exact if_neg h
theorem dui_e {q : dS} {j k : Nat} {v : Int32} : (dui q j k v).1 j k = v := by rw [dui_s]; exact if_pos rfl
theorem dui_2 {q : dS} {j k : Nat} {v : Int32} : (dui q j k v).2 = q.2 := rfl
theorem dul_1 {q : dS} {j k : Nat} {v : Int64} : (dul q j k v).1 = q.1 := rfl
/-! what stays: rows outside of S, fields outside of F -/
def dFr (S F : List Nat) (q q' : dS) : Prop := (∀ j : Nat, j ∉ S → j ≠ 0 → q'.1 j = q.1 j) ∧ (∀ k : Nat, k ∉ F → q'.1 0 k = q.1 0 k)
theorem dFr.rf {S F : List Nat} {q : dS} : dFr S F q q := ⟨fun _ _ _ => rfl, fun _ _ => rfl⟩
theorem dFr.i {S F : List Nat} {q q' : dS} (h : dFr S F q q') {j k : Nat} {v : Int32} (hj : j ∈ S) (h0 : j ≠ 0) : dFr S F q (dui q' j k v) := by
  refine ⟨fun a ha h1 => ?_, fun a ha => ?_⟩
  · rw [dui_o (fun z => ha (by rw [z]; exact hj))]; exact h.1 a ha h1
  · rw [dui_o (fun z => h0 z.symm)]; exact h.2 a ha
theorem dFr.f {S F : List Nat} {q q' : dS} (h : dFr S F q q') {k : Nat} {v : Int32} (hk : k ∈ F) : dFr S F q (dui q' 0 k v) := by
  refine ⟨fun a ha h1 => ?_, fun a ha => ?_⟩
  · rw [dui_o h1]; exact h.1 a ha h1
  · rw [dui_n (fun z => ha (by rw [z]; exact hk))]; exact h.2 a ha
theorem dFr.l {S F : List Nat} {q q' : dS} (h : dFr S F q q') {j k : Nat} {v : Int64} : dFr S F q (dul q' j k v) := h
theorem dFr.t {S F S2 F2 : List Nat} {q q' q2 : dS} (h : dFr S F q q') (h2 : dFr S2 F2 q' q2) (hS : ∀ a ∈ S2, a ∈ S) (hF : ∀ a ∈ F2, a ∈ F) : dFr S F q q2 :=
  ⟨fun a ha h1 => (h2.1 a (fun z => ha (hS a z)) h1).trans (h.1 a ha h1), fun a ha => (h2.2 a (fun z => ha (hF a z))).trans (h.2 a ha)⟩
theorem dFr.w {S F S2 F2 : List Nat} {q q2 : dS} (h2 : dFr S2 F2 q q2) (hS : ∀ a ∈ S2, a ∈ S) (hF : ∀ a ∈ F2, a ∈ F) : dFr S F q q2 := dFr.rf.t h2 hS hF
def rg (x : Int32) (a b : Int) : Prop := a ≤ x.toInt ∧ x.toInt ≤ b
theorem ti_shl5 {x s : Int32} (hx : 0 ≤ x.toInt) (hx2 : x.toInt ≤ 1) (hs : 0 ≤ s.toInt) (hs2 : s.toInt ≤ 5) : 0 ≤ (x <<< (s &&& 31)).toInt ∧ (x <<< (s &&& 31)).toInt ≤ 32 := by
  obtain ⟨n, rfl, hn, hn2⟩ := ti_nI hx
  obtain ⟨m, rfl, hm, hm2⟩ := ti_nI hs
  rw [sh_bit n (by omega) m (by omega)]
  have h2 : (2 : Nat) ^ m ≤ 2 ^ 5 := Nat.pow_le_pow_right (by decide) (by omega)
  have h3 : n * 2 ^ m ≤ 1 * 2 ^ 5 := Nat.mul_le_mul (by omega) h2
  rw [nI_toInt (by omega)]
  omega
theorem ti_shl6 {x s : Int32} (hx : 0 ≤ x.toInt) (hx2 : x.toInt ≤ 1) (hs : 0 ≤ s.toInt) (hs2 : s.toInt ≤ 6) : 0 ≤ (x <<< (s &&& 31)).toInt ∧ (x <<< (s &&& 31)).toInt ≤ 64 := by
  obtain ⟨n, rfl, hn, hn2⟩ := ti_nI hx
  obtain ⟨m, rfl, hm, hm2⟩ := ti_nI hs
  rw [sh_bit n (by omega) m (by omega)]
  have h2 : (2 : Nat) ^ m ≤ 2 ^ 6 := Nat.pow_le_pow_right (by decide) (by omega)
  have h3 : n * 2 ^ m ≤ 1 * 2 ^ 6 := Nat.mul_le_mul (by omega) h2
  rw [nI_toInt (by omega)]
  omega
theorem tl_add {a b : Int64} {A B : Int} (ha : a.toInt = A) (hb : b.toInt = B) (h1 : -9223372036854775808 ≤ A + B) (h2 : A + B ≤ 9223372036854775807) : (a + b).toInt = A + B := by
  rw [Int64.toInt_add, ha, hb]
  exact Int.bmod_eq_of_le (by omega) (by omega)
theorem tl_sub {a b : Int64} {A B : Int} (ha : a.toInt = A) (hb : b.toInt = B) (h1 : -9223372036854775808 ≤ A - B) (h2 : A - B ≤ 9223372036854775807) : (a - b).toInt = A - B := by
  rw [Int64.toInt_sub, ha, hb]
  exact Int.bmod_eq_of_le (by omega) (by omega)
theorem tl_mul {a b : Int64} {A B : Int} (ha : a.toInt = A) (hb : b.toInt = B) (h1 : -9223372036854775808 ≤ A * B) (h2 : A * B ≤ 9223372036854775807) : (a * b).toInt = A * B := by
  rw [Int64.toInt_mul, ha, hb]
  exact Int.bmod_eq_of_le (by omega) (by omega)
theorem tl_div {a b : Int64} {A B : Int} (ha : a.toInt = A) (hb : b.toInt = B) (h1 : 0 ≤ A) (h2 : 0 < B) : (a / b).toInt = A / B := by
  have h3 := a.toInt_lt
  have h4 : A / B ≤ A := Int.ediv_le_self B h1
  have h5 : 0 ≤ A / B := Int.ediv_nonneg h1 (Int.le_of_lt h2)
  rw [Int64.toInt_div, ha, hb, Int.tdiv_eq_ediv_of_nonneg h1]
  exact Int.bmod_eq_of_le (by omega) (by omega)
theorem tl_rem {a b : Int64} {A B : Int} (ha : a.toInt = A) (hb : b.toInt = B) (h1 : 0 ≤ A) (h2 : 0 < B) : (a - a / b * b).toInt = A % B := by
  have h3 := a.toInt_lt
  have h0 := tl_div ha hb h1 h2
  have h4 : A / B * B ≤ A := Int.ediv_mul_le A (by omega)
  have h5 : 0 ≤ A / B := Int.ediv_nonneg h1 (Int.le_of_lt h2)
  have h6 : 0 ≤ A / B * B := Int.mul_nonneg h5 (Int.le_of_lt h2)
  have h7 : (a / b * b).toInt = A / B * B := tl_mul h0 hb (by omega) (by omega)
  rw [tl_sub ha h7 (by omega) (by omega)]
  have h8 := Int.mul_ediv_add_emod A B
  rw [Int.mul_comm] at h8
  omega
def facI (n : Int) : Int := if n ≤ 1 then 1 else if n = 2 then 2 else if n = 3 then 6 else if n = 4 then 24 else if n = 5 then 120 else 720
def powI (n : Int) : Int := if n = 0 then 1 else if n = 1 then 2 else if n = 2 then 4 else if n = 3 then 8 else if n = 4 then 16 else if n = 5 then 32 else 64
theorem ti_shlP {s : Int32} (hs : 0 ≤ s.toInt) (hs2 : s.toInt ≤ 6) : ((1 : Int32) <<< (s &&& 31)).toInt = powI s.toInt := by
  obtain ⟨m, rfl, hm, hm2⟩ := ti_nI hs
  have h : ∀ k : Nat, k < 7 → ((1 : Int32) <<< (nI k &&& 31)).toInt = powI k := by decide +kernel
  rw [h m (by omega), ← hm]
/-! the same, and of row 2 what lies from place 14 on -/
def dFk (S F : List Nat) (q q' : dS) : Prop := dFr S F q q' ∧ ∀ i : Nat, 14 ≤ i → q'.1 2 i = q.1 2 i
theorem dFk.rf {S F : List Nat} {q : dS} : dFk S F q q := ⟨dFr.rf, fun _ _ => rfl⟩
theorem dFk.i {S F : List Nat} {q q' : dS} (h : dFk S F q q') {j k : Nat} {v : Int32} (hj : j ∈ S) (h0 : j ≠ 0) (h2 : ¬ 2 = j) : dFk S F q (dui q' j k v) := ⟨h.1.i hj h0, fun i hi => by rw [dui_o h2]; exact h.2 i hi⟩
theorem dFk.k {S F : List Nat} {q q' : dS} (h : dFk S F q q') {k : Nat} {v : Int32} (hk : k < 14) (hj : 2 ∈ S) : dFk S F q (dui q' 2 k v) := ⟨h.1.i hj (by decide), fun i hi => by rw [dui_n (by omega)]; exact h.2 i hi⟩
theorem dFk.f {S F : List Nat} {q q' : dS} (h : dFk S F q q') {k : Nat} {v : Int32} (hk : k ∈ F) : dFk S F q (dui q' 0 k v) := ⟨h.1.f hk, fun i hi => by rw [dui_o (by decide)]; exact h.2 i hi⟩
theorem dFk.l {S F : List Nat} {q q' : dS} (h : dFk S F q q') {j k : Nat} {v : Int64} : dFk S F q (dul q' j k v) := h
theorem dFk.t {S F S2 F2 : List Nat} {q q' q2 : dS} (h : dFk S F q q') (h2 : dFk S2 F2 q' q2) (hS : ∀ a ∈ S2, a ∈ S) (hF : ∀ a ∈ F2, a ∈ F) : dFk S F q q2 := ⟨h.1.t h2.1 hS hF, fun i hi => (h2.2 i hi).trans (h.2 i hi)⟩
theorem dFk.tr {S F S2 F2 : List Nat} {q q' q2 : dS} (h : dFk S F q q') (h2 : dFr S2 F2 q' q2) (hS : ∀ a ∈ S2, a ∈ S) (hF : ∀ a ∈ F2, a ∈ F) (hn : 2 ∉ S2) : dFk S F q q2 := ⟨h.1.t h2 hS hF, fun i hi => by rw [h2.1 2 hn (by decide)]; exact h.2 i hi⟩
end
section
/-! the grammar of texts, over codes C and values V of tokens -/
def gEnd (op : Nat → Prop) (X : Nat → Nat → Prop) : Nat → Nat → Nat → Prop
  | 0, i, j => X i j ∧ ¬ op j
  | n + 1, i, j => ∃ m : Nat, X i m ∧ op m ∧ gEnd op X n (m + 1) j
def gSeq (op : Nat → Prop) (X : Nat → Nat → Prop) (i j : Nat) : Prop := ∃ n : Nat, gEnd op X n i j
def gLeafL (C : Nat → Int) (i j : Nat) : Prop := (C i = 50 ∨ (8 ≤ C i ∧ C i ≤ 16)) ∧ j = i + 1
def gLeafO (C V : Nat → Int) (i j : Nat) : Prop := ((C i = 50 ∨ (16 ≤ C i ∧ C i ≤ 20)) ∧ j = i + 1) ∨ ((C i = 15 ∨ C i = 21) ∧ C (i + 1) = 50 ∧ 0 ≤ V (i + 1) ∧ V (i + 1) ≤ 5 ∧ j = i + 2)
def gLeaf (o : Bool) (C V : Nat → Int) (i j : Nat) : Prop := match o with
  | false => gLeafL C i j
  | true => gLeafO C V i j
def gMul (C : Nat → Int) (i : Nat) : Prop := C i = 142 ∨ C i = 147 ∨ C i = 137
def gAdd (C : Nat → Int) (i : Nat) : Prop := C i = 143 ∨ C i = 145
def gPart (o : Bool) (C V : Nat → Int) : Nat → Nat → Nat → Prop
  | 0 => fun i j => gLeaf o C V i j
  | d + 1 => fun i j => gLeaf o C V i j ∨ (C i = 191 ∧ ∃ m : Nat, gSeq (gAdd C) (gSeq (gMul C) (gPart o C V d)) (i + 1) m ∧ C m = 193 ∧ j = m + 1)
def gSum (o : Bool) (C V : Nat → Int) (d : Nat) : Nat → Nat → Prop := gSeq (gAdd C) (gSeq (gMul C) (gPart o C V d))
def gNots (C : Nat → Int) (i m : Nat) : Prop := (∀ a : Nat, i ≤ a → a < m → C a = 7) ∧ i ≤ m ∧ ¬ C m = 7
def gCmp (o : Bool) (C V : Nat → Int) (d m j : Nat) : Prop := ¬ C m = 140 ∧ ∃ n : Nat, gSum o C V d m n ∧ (C n = 160 ∨ C n = 162 ∨ C n = 161) ∧ gSum o C V d (n + 1) j
def gPlain (o : Bool) (C V : Nat → Int) : Nat → Nat → Nat → Prop
  | 0 => fun i j => ∃ m : Nat, gNots C i m ∧ gCmp o C V 0 m j
  | d + 1 => fun i j => ∃ m : Nat, gNots C i m ∧ (gCmp o C V (d + 1) m j ∨ (C m = 140 ∧ ∃ n : Nat, gSeq (fun a => C a = 5) (gSeq (fun a => C a = 6) (gPlain o C V d)) (m + 1) n ∧ C n = 141 ∧ j = n + 1))
def gTest (o : Bool) (C V : Nat → Int) (d : Nat) : Nat → Nat → Prop := gSeq (fun a => C a = 5) (gSeq (fun a => C a = 6) (gPlain o C V d))
def gIf (o : Bool) (C V : Nat → Int) (m j : Nat) : Prop := (C m = 4 ∧ gTest o C V 8 (m + 1) j) ∨ (¬ C m = 4 ∧ j = m)
def gClause (C V : Nat → Int) (i j : Nat) : Prop := (C i = 1 ∧ ∃ m : Nat, gSum false C V 8 (i + 1) m ∧ gIf false C V m j) ∨ ((C i = 2 ∨ C i = 3) ∧ gIf false C V (i + 1) j)
def lawC (f : Nat → Int32) (e i : Nat) : Int := if i < e then (f (40 + i)).toInt else 0
def lawV (f : Nat → Int32) (i : Nat) : Int := (f (2840 + i)).toInt
def lawE (f : Nat → Int32) (t : Nat) : Nat := 400 * t + (f (33 + t)).toInt.toNat
def LawOk (f : Nat → Int32) (t : Nat) : Prop := gSeq (fun i => lawC f (lawE f t) i = 159) (gClause (lawC f (lawE f t)) (lawV f)) (400 * t) (lawE f t)
/-! what the reference's numbers are, by their places -/
def klo (i : Nat) : Int := if i < 32 then 0 else if i = 32 then -1 else if i < 40 then 0 else -2147483648
def khi (i : Nat) : Int := if i < 6 then 5 else if i < 12 then 1 else if i = 12 then 9999 else if i = 13 then 999 else if i < 26 then 5 else if i = 26 then 10 else if i = 27 then 9 else if i = 28 then 1 else if i < 32 then 6 else if i = 32 then 5 else if i < 40 then 400 else 2147483647
def f0lo (i : Nat) : Int := if i = 13 ∨ i = 32 ∨ i = 55 ∨ i = 10 ∨ i = 24 ∨ i = 25 ∨ i = 50 ∨ i = 51 ∨ i = 37 ∨ i = 38 then 0 else if i = 54 then -1 else -2147483648
def f0hi (i : Nat) : Int := if i = 13 then 400 else if i = 32 then 16 else if i = 55 then 1000002 else if i = 10 ∨ i = 24 ∨ i = 25 ∨ i = 50 ∨ i = 51 then 1 else if i = 37 then 720 else if i = 38 then 64 else if i = 54 then 6 else 2147483647
def tlo (j i : Nat) : Int := match j with
  | 0 => f0lo i
  | 2 => klo i
  | 3 => klo (i % 5640)
  | 5 => klo (i % 14)
  | 11 => 0
  | 14 => if i % 15 < 14 then klo (i % 15) else -2147483648
  | 15 => if i % 15 < 14 then klo (i % 15) else -2147483648
  | 16 => 0
  | 17 => 0
  | 18 => 0
  | 20 => -1
  | 21 => 0
  | 23 => 0
  | 27 => klo (i % 14)
  | _ => -2147483648
def thi (j i : Nat) : Int := match j with
  | 0 => f0hi i
  | 2 => khi i
  | 3 => khi (i % 5640)
  | 5 => khi (i % 14)
  | 11 => 400
  | 14 => if i % 15 < 14 then khi (i % 15) else 2147483647
  | 15 => if i % 15 < 14 then khi (i % 15) else 2147483647
  | 16 => 5
  | 17 => 719
  | 18 => 63
  | 20 => 99
  | 21 => 1000000
  | 23 => 46079
  | 27 => khi (i % 14)
  | _ => 2147483647
def TE (q : dS) : Prop := ∀ j i : Nat, tlo j i ≤ (q.1 j i).toInt ∧ (q.1 j i).toInt ≤ thi j i
def KR (f : Nat → Int32) : Prop := (f 32).toInt < (f 31).toInt ∧ ∀ t : Nat, t < 6 → (t : Int) < (f 31).toInt → LawOk f t
def wB (i : Nat) : Int32 := ([112, 97, 121, 115, 32, 98, 97, 114, 115, 32, 116, 105, 112, 115, 32, 105, 102, 32, 111, 114, 32, 97, 110, 100, 32, 110, 111, 116, 32, 103, 114, 105, 112, 32, 116, 111, 112, 32, 110, 101, 120, 116, 32, 102, 108, 111, 111, 114, 115, 32, 114, 97, 110, 107, 32, 112, 108, 97, 99, 101, 32, 109, 111, 111, 100, 32, 104, 101, 97, 100, 32, 121, 101, 97, 114, 32, 100, 111, 110, 101, 32, 108, 97, 116, 101, 115, 116, 32, 112, 97, 105, 100, 32, 103, 97, 112, 115, 32, 97, 116, 32, 116, 117, 114, 110, 32, 114, 105, 103, 104, 116, 32, 115, 119, 97, 112, 32, 112, 97, 115, 115, 32, 116, 105, 109, 101, 115, 32] : List Int32).getD i 0
def TS (q : dS) : Prop := TE q ∧ KR (q.1 2) ∧ (∀ k : Nat, k < 2 → ¬ q.1 4 k = 0 → KR (fun i => q.1 3 (5640 * k + i))) ∧ ∀ i : Nat, i < 128 → q.1 6 i = wB i
theorem KR.congr {f g : Nat → Int32} (h : ∀ i : Nat, 31 ≤ i → f i = g i) (hf : KR f) : KR g := by
  have e31 := h 31 (by omega)
  have e32 := h 32 (by omega)
  refine ⟨by rw [← e31, ← e32]; exact hf.1, fun t ht h1 => ?_⟩
  have h2 := hf.2 t ht (by rw [e31]; exact h1)
  have eE : lawE f t = lawE g t := by unfold lawE; rw [h (33 + t) (by omega)]
  have eC : lawC f (lawE f t) = lawC g (lawE g t) := by
    rw [eE]; funext i; unfold lawC; rw [h (40 + i) (by omega)]
  have eV : lawV f = lawV g := by funext i; unfold lawV; rw [h (2840 + i) (by omega)]
  unfold LawOk at *
  rw [← eE, ← eV]
  rw [eE] at eC
  rw [eE] at h2
  rw [eE, ← eC]
  exact h2
theorem te_set {q : dS} {j i : Nat} {v : Int32} (h : TE q) (h1 : tlo j i ≤ v.toInt) (h2 : v.toInt ≤ thi j i) : TE (dui q j i v) := by
  intro a b
  by_cases c : a = j
  · subst c
    by_cases c2 : b = i
    · subst c2; rw [dui_e]; exact ⟨h1, h2⟩
    · rw [dui_n c2]; exact h a b
  · rw [dui_o c]; exact h a b
theorem ts_set {q : dS} {j i : Nat} {v : Int32} (h : TS q) (hj : ¬ j = 2 ∧ ¬ j = 3 ∧ ¬ j = 4 ∧ ¬ j = 6) (h1 : tlo j i ≤ v.toInt) (h2 : v.toInt ≤ thi j i) : TS (dui q j i v) := by
  refine ⟨te_set h.1 h1 h2, ?_, ?_, ?_⟩
  · rw [dui_o (fun z => hj.1 z.symm)]; exact h.2.1
  · rw [dui_o (fun z => hj.2.1 z.symm), dui_o (fun z => hj.2.2.1 z.symm)]; exact h.2.2.1
  · rw [dui_o (fun z => hj.2.2.2 z.symm)]; exact h.2.2.2
theorem ts_set2 {q : dS} {i : Nat} {v : Int32} (h : TS q) (hi : i < 31) (h1 : klo i ≤ v.toInt) (h2 : v.toInt ≤ khi i) : TS (dui q 2 i v) := by
  refine ⟨te_set h.1 h1 h2, ?_, ?_, ?_⟩
  · rw [dui_s]
    refine KR.congr (fun a ha => ?_) h.2.1
    exact (if_neg (by omega)).symm
  · rw [dui_o (by decide), dui_o (by decide)]; exact h.2.2.1
  · rw [dui_o (by decide)]; exact h.2.2.2
theorem ts_any {q : dS} {j i : Nat} {v : Int32} (h : TS q) (hj : (j == 1 || j == 7 || j == 8 || j == 9 || j == 10 || j == 12 || j == 13 || j == 19 || j == 22 || j == 24 || j == 25) = true) : TS (dui q j i v) := by
  have hv := ti_rg v
  simp only [Bool.or_eq_true, beq_iff_eq] at hj
  rcases hj with ((((((((((hj | hj) | hj) | hj) | hj) | hj) | hj) | hj) | hj) | hj) | hj) <;> subst hj <;> exact ts_set h (by decide) hv.1 hv.2
theorem ts_f {q : dS} {k : Nat} {v : Int32} (h : TS q) (hl : f0lo k ≤ v.toInt) (hh : v.toInt ≤ f0hi k) : TS (dui q 0 k v) := ts_set h (by decide) hl hh
theorem ts_l {q : dS} {j k : Nat} {v : Int64} (h : TS q) : TS (dul q j k v) := h
theorem te_k {q : dS} (h : TS q) (i : Nat) : klo i ≤ (q.1 2 i).toInt ∧ (q.1 2 i).toInt ≤ khi i := h.1 2 i
theorem te_2r {q : dS} (h : TS q) {i : Nat} (h1 : 0 ≤ i) (h2 : i < 6) : 0 ≤ (q.1 2 i).toInt ∧ (q.1 2 i).toInt ≤ 5 := by
  have z := te_k h i
  unfold klo khi at z
  omega
theorem te_2h {q : dS} (h : TS q) {i : Nat} (h1 : 6 ≤ i) (h2 : i < 12) : 0 ≤ (q.1 2 i).toInt ∧ (q.1 2 i).toInt ≤ 1 := by
  have z := te_k h i
  unfold klo khi at z
  omega
theorem te_2s {q : dS} (h : TS q) {i : Nat} (h1 : 14 ≤ i) (h2 : i < 26) : 0 ≤ (q.1 2 i).toInt ∧ (q.1 2 i).toInt ≤ 5 := by
  have z := te_k h i
  unfold klo khi at z
  omega
theorem te_2z {q : dS} (h : TS q) {i : Nat} (h1 : 33 ≤ i) (h2 : i < 40) : 0 ≤ (q.1 2 i).toInt ∧ (q.1 2 i).toInt ≤ 400 := by
  have z := te_k h i
  unfold klo khi at z
  omega
theorem te_5 {q : dS} (h : TS q) (i : Nat) : klo (i % 14) ≤ (q.1 5 i).toInt ∧ (q.1 5 i).toInt ≤ khi (i % 14) := h.1 5 i
theorem te_27 {q : dS} (h : TS q) (i : Nat) : klo (i % 14) ≤ (q.1 27 i).toInt ∧ (q.1 27 i).toInt ≤ khi (i % 14) := h.1 27 i
theorem te_14 {q : dS} (h : TS q) {i : Nat} (h1 : i % 15 < 14) : klo (i % 15) ≤ (q.1 14 i).toInt ∧ (q.1 14 i).toInt ≤ khi (i % 15) := by
  have z := h.1 14 i
  simp only [tlo, thi, if_pos h1] at z
  exact z
theorem te_15 {q : dS} (h : TS q) {i : Nat} (h1 : i % 15 < 14) : klo (i % 15) ≤ (q.1 15 i).toInt ∧ (q.1 15 i).toInt ≤ khi (i % 15) := by
  have z := h.1 15 i
  simp only [tlo, thi, if_pos h1] at z
  exact z
theorem ts_5 {q : dS} {i s : Nat} {v : Int32} (h : TS q) (hs : i % 14 = s) (h1 : klo s ≤ v.toInt ∧ v.toInt ≤ khi s) : TS (dui q 5 i v) := by
  subst hs
  exact ts_set h (by decide) h1.1 h1.2
theorem ts_27 {q : dS} {i s : Nat} {v : Int32} (h : TS q) (hs : i % 14 = s) (h1 : klo s ≤ v.toInt ∧ v.toInt ≤ khi s) : TS (dui q 27 i v) := by
  subst hs
  exact ts_set h (by decide) h1.1 h1.2
theorem ts_14 {q : dS} {i s : Nat} {v : Int32} (h : TS q) (hs : i % 15 = s) (h0 : s < 14) (h1 : klo s ≤ v.toInt ∧ v.toInt ≤ khi s) : TS (dui q 14 i v) := by
  subst hs
  exact ts_set h (by decide) (by simp only [tlo, if_pos h0]; exact h1.1) (by simp only [thi, if_pos h0]; exact h1.2)
theorem ts_14x {q : dS} {i : Nat} {v : Int32} (h : TS q) (h0 : ¬ i % 15 < 14) : TS (dui q 14 i v) :=
  ts_set h (by decide) (by simp only [tlo, if_neg h0]; exact (ti_rg v).1) (by simp only [thi, if_neg h0]; exact (ti_rg v).2)
theorem ts_15 {q : dS} {i s : Nat} {v : Int32} (h : TS q) (hs : i % 15 = s) (h0 : s < 14) (h1 : klo s ≤ v.toInt ∧ v.toInt ≤ khi s) : TS (dui q 15 i v) := by
  subst hs
  exact ts_set h (by decide) (by simp only [tlo, if_pos h0]; exact h1.1) (by simp only [thi, if_pos h0]; exact h1.2)
theorem ts_15x {q : dS} {i : Nat} {v : Int32} (h : TS q) (h0 : ¬ i % 15 < 14) : TS (dui q 15 i v) :=
  ts_set h (by decide) (by simp only [tlo, if_neg h0]; exact (ti_rg v).1) (by simp only [thi, if_neg h0]; exact (ti_rg v).2)
theorem ts_2c {q : dS} {i s : Nat} {v : Int32} (h : TS q) (hi : i < 31) (hs : i = s) (h1 : klo s ≤ v.toInt ∧ v.toInt ≤ khi s) : TS (dui q 2 i v) := by
  subst hs
  exact ts_set2 h hi h1.1 h1.2
theorem ts_force {q : dS} {v : Int32} (h : TS q) (h1 : -1 ≤ v.toInt) (h2 : v.toInt < (q.1 2 31).toInt) : TS (dui q 2 32 v) := by
  have h3 := te_k h 31
  have e1 : khi 31 = 6 := by decide
  refine ⟨te_set h.1 (by show klo 32 ≤ _; unfold klo; omega) (by show _ ≤ khi 32; unfold khi; omega), ?_, ?_, ?_⟩
  · rw [dui_s]
    refine ⟨?_, fun t ht h4 => ?_⟩
    · show (if 32 = 32 then v else q.1 2 32).toInt < (if 31 = 32 then v else q.1 2 31).toInt
      rw [if_pos rfl, if_neg (by decide)]; exact h2
    · have h5 := h.2.1.2 t ht h4
      have eE : lawE (upd (q.1 2) 32 v) t = lawE (q.1 2) t := by
        unfold lawE
        rw [show upd (q.1 2) 32 v (33 + t) = q.1 2 (33 + t) from if_neg (by omega)]
      have eC : lawC (upd (q.1 2) 32 v) (lawE (q.1 2) t) = lawC (q.1 2) (lawE (q.1 2) t) := by
        funext i; unfold lawC
        rw [show upd (q.1 2) 32 v (40 + i) = q.1 2 (40 + i) from if_neg (by omega)]
      have eV : lawV (upd (q.1 2) 32 v) = lawV (q.1 2) := by
        funext i; unfold lawV
        rw [show upd (q.1 2) 32 v (2840 + i) = q.1 2 (2840 + i) from if_neg (by omega)]
      unfold LawOk
      rw [eE, eC, eV]
      exact h5
  · rw [dui_o (by decide), dui_o (by decide)]; exact h.2.2.1
  · rw [dui_o (by decide)]; exact h.2.2.2
theorem fac_step {x1 x2 : Int32} (h : (x2.toInt = 2 ∧ x1.toInt = 1) ∨ (x2.toInt = 3 ∧ x1.toInt = 2) ∨ (x2.toInt = 4 ∧ x1.toInt = 6) ∨ (x2.toInt = 5 ∧ x1.toInt = 24) ∨ (x2.toInt = 6 ∧ x1.toInt = 120) ∨ (x2.toInt = 7 ∧ x1.toInt = 720)) :
    (x2.toInt = 2 ∧ (x1 * x2).toInt = 2) ∨ (x2.toInt = 3 ∧ (x1 * x2).toInt = 6) ∨ (x2.toInt = 4 ∧ (x1 * x2).toInt = 24) ∨ (x2.toInt = 5 ∧ (x1 * x2).toInt = 120) ∨ (x2.toInt = 6 ∧ (x1 * x2).toInt = 720) ∨ x2.toInt = 7 := by
  rcases h with ⟨h1, h2⟩ | ⟨h1, h2⟩ | ⟨h1, h2⟩ | ⟨h1, h2⟩ | ⟨h1, h2⟩ | ⟨h1, h2⟩
  · have := ti_mul h2 h1 (by decide) (by decide); omega
  · have := ti_mul h2 h1 (by decide) (by decide); omega
  · have := ti_mul h2 h1 (by decide) (by decide); omega
  · have := ti_mul h2 h1 (by decide) (by decide); omega
  · have := ti_mul h2 h1 (by decide) (by decide); omega
  · omega
/-! numbers of orders -/
def nbf (n : Nat) : Nat → Nat
  | 0 => 1
  | a + 1 => nbf n a * (n - a)
theorem nbf_le : ∀ n : Nat, n ≤ 6 → ∀ a : Nat, a ≤ n → nbf n a ≤ 720 ∧ nbf n n ≤ 720 := by decide +kernel
theorem nbf_fac : ∀ n : Nat, n ≤ 6 → (n ≤ 1 ∧ nbf n n = 1) ∨ (n = 2 ∧ nbf n n = 2) ∨ (n = 3 ∧ nbf n n = 6) ∨ (n = 4 ∧ nbf n n = 24) ∨ (n = 5 ∧ nbf n n = 120) ∨ (n = 6 ∧ nbf n n = 720) := by decide +kernel
def NB (n a v : Int) : Prop := 0 ≤ v ∧ 0 ≤ a ∧ a ≤ n ∧ n ≤ 6 ∧ v < (nbf n.toNat a.toNat : Nat)
theorem NB_0 {n : Int} (h0 : 0 ≤ n) (h : n ≤ 6) : NB n 0 0 := ⟨by decide, by decide, h0, h, by show (0 : Int) < ((1 : Nat) : Int); decide⟩
theorem NB_r {n a v : Int} (h : NB n a v) : 0 ≤ v ∧ v ≤ 719 ∧ a ≤ n ∧ 0 ≤ a := by
  obtain ⟨h1, h2, h3, h4, h5⟩ := h
  have := (nbf_le n.toNat (by omega) a.toNat (by omega)).1
  omega
theorem NB_m {n a v : Int} (h : NB n a v) (w : Int) (hw : 0 ≤ w) (hw2 : w ≤ 6) : 0 ≤ v * w ∧ v * w ≤ 4314 := by
  have h1 := NB_r h
  constructor
  · exact Int.mul_nonneg h1.1 hw
  · have : v * w ≤ 719 * 6 := Int.mul_le_mul h1.2.1 hw2 hw (by decide)
    omega
theorem NB_s {n a v l w u : Int} (h : NB n a v) (ha : a < n) (h0 : 0 ≤ l) (hl : l ≤ n - 1 - a) (hw : w = n - a) (hu : u = v * w + l) : NB n (a + 1) u := by
  obtain ⟨h1, h2, h3, h4, h5⟩ := h
  subst hw hu
  have h6 : (a + 1).toNat = a.toNat + 1 := by omega
  have h7 : 0 ≤ v * (n - a) := Int.mul_nonneg h1 (by omega)
  refine ⟨by omega, by omega, by omega, h4, ?_⟩
  rw [h6]
  show v * (n - a) + l < ((nbf n.toNat a.toNat * (n.toNat - a.toNat) : Nat) : Int)
  have h8 : ((nbf n.toNat a.toNat * (n.toNat - a.toNat) : Nat) : Int) = (nbf n.toNat a.toNat : Int) * (n - a) := by
    rw [Int.natCast_mul]
    congr 1
    omega
  rw [h8]
  have h9 : (v + 1) * (n - a) ≤ (nbf n.toNat a.toNat : Int) * (n - a) := Int.mul_le_mul_of_nonneg_right (by omega) (by omega)
  rw [Int.add_mul] at h9
  omega
theorem NB_s2 {n a v : Int} (l w : Int) {u b : Int} (h : NB n a v) (ha : a < n) (h0 : 0 ≤ l) (hl : l ≤ n - 1 - a) (hw : w = n - a) (hb : b = a + 1) (hu : u = v * w + l) : NB n b u := by
  subst hb
  exact NB_s h ha h0 hl hw hu
theorem NB_e {n a v : Int} (h : NB n a v) (h2 : n ≤ a) : NB n n v := by
  have h3 := NB_r h
  have e : a = n := by omega
  rw [e] at h
  exact h
theorem ts_cp {q q' : dS} {i s : Nat} {v : Int32} (j j0 : Nat) (hj : j = 14 ∨ j = 15) (hj0 : j0 = 14 ∨ j0 = 15) (h : TS q) (h0 : TS q') (hs : i % 15 = s % 15) (hv : v = q'.1 j0 s) : TS (dui q j i v) := by
  by_cases c : i % 15 < 14
  · have c2 : s % 15 < 14 := by omega
    have h1 : klo (s % 15) ≤ v.toInt ∧ v.toInt ≤ khi (s % 15) := by
      rw [hv]
      rcases hj0 with e | e <;> subst e
      · exact te_14 h0 c2
      · exact te_15 h0 c2
    rcases hj with e | e <;> subst e
    · exact ts_14 h hs c2 h1
    · exact ts_15 h hs c2 h1
  · rcases hj with e | e <;> subst e
    · exact ts_14x h c
    · exact ts_15x h c
end
section
set_option maxHeartbeats 4000000 in
set_option maxRecDepth 100000 in
theorem ok_lies (p1 : Int32) (p2 : Int32) (p3 : Int32) : dOk (zX10_lies p1 p2 p3) (fun (o : Int32) => ((Int32.toInt o = 1 ∧ Int32.toInt p2 ≤ Int32.toInt p1 ∧ Int32.toInt p1 ≤ Int32.toInt p3) ∨ (Int32.toInt o = 0 ∧ (Int32.toInt p1 < Int32.toInt p2 ∨ Int32.toInt p3 < Int32.toInt p1)))) := by
  unfold zX10_lies
  refine dOk_lt (A := Int32.toInt p1) (B := Int32.toInt p2) rfl rfl (fun c_1 => ?_) (fun c_2 => ?_)
  · unfold zX10_lies_14
    unfold zX10_lies_15
    refine dOk_G (dbl_ok (show (0 : Int) = 0 ∨ (0 : Int) = 1 by omega)) ?_
    exact dOk_some (show (((0 : Int) = 1 ∧ Int32.toInt p2 ≤ Int32.toInt p1 ∧ Int32.toInt p1 ≤ Int32.toInt p3) ∨ ((0 : Int) = 0 ∧ (Int32.toInt p1 < Int32.toInt p2 ∨ Int32.toInt p3 < Int32.toInt p1))) from (by omega))
  · refine dOk_lt (A := Int32.toInt p3) (B := Int32.toInt p1) rfl rfl (fun c_3 => ?_) (fun c_4 => ?_)
    · unfold zX10_lies_14
      unfold zX10_lies_15
      refine dOk_G (dbl_ok (show (0 : Int) = 0 ∨ (0 : Int) = 1 by omega)) ?_
      exact dOk_some (show (((0 : Int) = 1 ∧ Int32.toInt p2 ≤ Int32.toInt p1 ∧ Int32.toInt p1 ≤ Int32.toInt p3) ∨ ((0 : Int) = 0 ∧ (Int32.toInt p1 < Int32.toInt p2 ∨ Int32.toInt p3 < Int32.toInt p1))) from (by omega))
    · unfold zX10_lies_15
      refine dOk_G (dbl_ok (show (1 : Int) = 0 ∨ (1 : Int) = 1 by omega)) ?_
      exact dOk_some (show (((1 : Int) = 1 ∧ Int32.toInt p2 ≤ Int32.toInt p1 ∧ Int32.toInt p1 ≤ Int32.toInt p3) ∨ ((1 : Int) = 0 ∧ (Int32.toInt p1 < Int32.toInt p2 ∨ Int32.toInt p3 < Int32.toInt p1))) from (by omega))

set_option maxHeartbeats 4000000 in
set_option maxRecDepth 100000 in
theorem ok_lesser (p1 : Int32) (p2 : Int32) : dOk (zX10_lesser p1 p2) (fun (o : Int32) => (Int32.toInt o ≤ Int32.toInt p1 ∧ Int32.toInt o ≤ Int32.toInt p2 ∧ (Int32.toInt o = Int32.toInt p1 ∨ Int32.toInt o = Int32.toInt p2))) := by
  unfold zX10_lesser
  refine dOk_le (A := Int32.toInt p2) (B := Int32.toInt p1) rfl rfl (fun c_1 => ?_) (fun c_2 => ?_)
  · unfold zX10_lesser_10
    exact dOk_some (show (Int32.toInt p2 ≤ Int32.toInt p1 ∧ Int32.toInt p2 ≤ Int32.toInt p2 ∧ (Int32.toInt p2 = Int32.toInt p1 ∨ Int32.toInt p2 = Int32.toInt p2)) from (by omega))
  · unfold zX10_lesser_10
    exact dOk_some (show (Int32.toInt p1 ≤ Int32.toInt p1 ∧ Int32.toInt p1 ≤ Int32.toInt p2 ∧ (Int32.toInt p1 = Int32.toInt p1 ∨ Int32.toInt p1 = Int32.toInt p2)) from (by omega))

set_option maxHeartbeats 4000000 in
set_option maxRecDepth 100000 in
theorem ok_greater (p1 : Int32) (p2 : Int32) : dOk (zX10_greater p1 p2) (fun (o : Int32) => (Int32.toInt p1 ≤ Int32.toInt o ∧ Int32.toInt p2 ≤ Int32.toInt o ∧ (Int32.toInt o = Int32.toInt p1 ∨ Int32.toInt o = Int32.toInt p2))) := by
  unfold zX10_greater
  refine dOk_le (A := Int32.toInt p1) (B := Int32.toInt p2) rfl rfl (fun c_1 => ?_) (fun c_2 => ?_)
  · unfold zX10_greater_10
    exact dOk_some (show (Int32.toInt p1 ≤ Int32.toInt p2 ∧ Int32.toInt p2 ≤ Int32.toInt p2 ∧ (Int32.toInt p2 = Int32.toInt p1 ∨ Int32.toInt p2 = Int32.toInt p2)) from (by omega))
  · unfold zX10_greater_10
    exact dOk_some (show (Int32.toInt p1 ≤ Int32.toInt p1 ∧ Int32.toInt p2 ≤ Int32.toInt p1 ∧ (Int32.toInt p1 = Int32.toInt p1 ∨ Int32.toInt p1 = Int32.toInt p2)) from (by omega))

set_option maxHeartbeats 4000000 in
set_option maxRecDepth 100000 in
theorem ok_refuses (q : dS) (p1 : Int32) (hT : TS q) (hp0 : (-6) ≤ Int32.toInt p1) (hp1 : Int32.toInt p1 ≤ 0) : dOk (zX10_refuses q p1) (fun (o : Int32 × dS) => (TS o.2) ∧ (dFr [1] [0] q o.2) ∧ (Int32.toInt o.1 = Int32.toInt p1)) := by
  unfold zX10_refuses
  refine dOk_L (fun q_1 eq_1 => ?_)
  have hTq_1 : TS q_1 := by rw [eq_1]; exact ts_f hT (ti_rg _).1 (ti_rg _).2
  have hFq_1 : dFr [1] [0] q q_1 := by rw [eq_1]; exact (dFr.rf (q := q)).f (by decide)
  try have t_2 : Int32.toInt ((-p1)) = -Int32.toInt p1 := ti_neg rfl (by omega) (by omega)
  refine dOk_G (dg_ok (show 0 ≤ Int32.toInt (-p1) by omega) (show Int32.toInt (-p1) < ((7 : Nat) : Int) by omega)) ?_
  have n_3 : ((Int32.toNatClampNeg (-p1) : Nat) : Int) = Int32.toInt (-p1) := cl_eq (by omega)
  refine dOk_L (fun v_4 ev_4 => ?_)
  refine dOk_G (dg_ok (show 0 ≤ Int32.toInt (-p1) by omega) (show Int32.toInt (-p1) < ((7 : Nat) : Int) by omega)) ?_
  refine dOk_L (fun q_5 eq_5 => ?_)
  have hTq_5 : TS q_5 := by rw [eq_5]; exact ts_any hTq_1 rfl
  have hFq_5 : dFr [1] [0] q q_5 := by rw [eq_5]; exact hFq_1.i (by decide) (by decide)
  exact dOk_some (show (TS q_5) ∧ (dFr [1] [0] q q_5) ∧ (Int32.toInt p1 = Int32.toInt p1) from ⟨hTq_5, hFq_5, by omega⟩)

set_option maxHeartbeats 4000000 in
set_option maxRecDepth 100000 in
theorem ok_good (q : dS) (p1 : Int32) (hT : TS q) : dOk (zX10_good q p1) (fun (o : Int32 × dS) => (TS o.2) ∧ (dFr [] [0] q o.2) ∧ (Int32.toInt o.1 = Int32.toInt p1)) := by
  unfold zX10_good
  refine dOk_L (fun q_1 eq_1 => ?_)
  have hTq_1 : TS q_1 := by rw [eq_1]; exact ts_f hT (ti_rg _).1 (ti_rg _).2
  have hFq_1 : dFr [] [0] q q_1 := by rw [eq_1]; exact (dFr.rf (q := q)).f (by decide)
  exact dOk_some (show (TS q_1) ∧ (dFr [] [0] q q_1) ∧ (Int32.toInt p1 = Int32.toInt p1) from ⟨hTq_1, hFq_1, by omega⟩)

set_option maxHeartbeats 4000000 in
set_option maxRecDepth 100000 in
theorem ok_settled (q : dS) (p1 : Int32) (hT : TS q) : dOk (zX10_settled q p1) (fun (o : Int32 × dS) => (TS o.2) ∧ (dFr [] [0, 32] q o.2) ∧ (Int32.toInt o.1 = Int32.toInt p1)) := by
  unfold zX10_settled
  refine dOk_L (fun q_1 eq_1 => ?_)
  have hTq_1 : TS q_1 := by rw [eq_1]; exact ts_f hT (show 0 ≤ (0 : Int) by omega) (show (0 : Int) ≤ 16 by omega)
  have hFq_1 : dFr [] [0, 32] q q_1 := by rw [eq_1]; exact (dFr.rf (q := q)).f (by decide)
  refine dOk_B (ok_good q_1 p1 hTq_1) (fun r_2 q_3 h_4 => ?_)
  replace h_4 : (TS q_3) ∧ (dFr [] [0] q_1 q_3) ∧ (Int32.toInt r_2 = Int32.toInt p1) := h_4
  obtain ⟨i_5, i_6, i_7⟩ := h_4
  have hFq_3 : dFr [] [0, 32] q q_3 := hFq_1.t i_6 (by decide) (by decide)
  exact dOk_some (show (TS q_3) ∧ (dFr [] [0, 32] q q_3) ∧ (Int32.toInt r_2 = Int32.toInt p1) from ⟨i_5, hFq_3, by omega⟩)

set_option maxHeartbeats 4000000 in
set_option maxRecDepth 100000 in
theorem ok_isIn (p1 : Int32) (p2 : Int32) : dOk (zX10_isIn p1 p2) (fun (o : Int32) => ((Int32.toInt o = 0 ∨ Int32.toInt o = 1))) := by
  unfold zX10_isIn
  have t_1 := ti_and1 (p1 >>> ((p2 : Int32) &&& 31))
  refine dOk_eq (A := Int32.toInt (p1 >>> ((p2 : Int32) &&& 31) &&& 1)) (B := 1) rfl (by decide) (fun c_2z c_2 => ?_) (fun c_3z c_3 => ?_)
  · unfold zX10_isIn_14
    refine dOk_G (dbl_ok (show (1 : Int) = 0 ∨ (1 : Int) = 1 by omega)) ?_
    exact dOk_some (show (((1 : Int) = 0 ∨ (1 : Int) = 1)) from (by omega))
  · unfold zX10_isIn_14
    refine dOk_G (dbl_ok (show (0 : Int) = 0 ∨ (0 : Int) = 1 by omega)) ?_
    exact dOk_some (show (((0 : Int) = 0 ∨ (0 : Int) = 1)) from (by omega))

set_option maxHeartbeats 4000000 in
set_option maxRecDepth 100000 in
theorem ok_ones (p1 : Int32) : dOk (zX10_ones p1) (fun (o : Int32) => (0 ≤ Int32.toInt o ∧ Int32.toInt o ≤ 7)) := by
  unfold zX10_ones
  unfold zX10_ones_4
  refine dFix_ok (fun (a : Int32 × Int32 × Int32) => (a.1 = p1) ∧ (0 ≤ Int32.toInt a.2.2) ∧ (Int32.toInt a.2.2 ≤ 7) ∧ (0 ≤ Int32.toInt a.2.1) ∧ (Int32.toInt a.2.1 ≤ Int32.toInt a.2.2)) (fun (a : Int32 × Int32 × Int32) => (7 - Int32.toInt a.2.2).toNat) ?_ _ ?_ _ (dF_gt ?_)
  · intro a ha k_2 hk_1
    obtain ⟨x0_3, x1_4, x2_5⟩ := a
    replace ha : (x0_3 = p1) ∧ (0 ≤ Int32.toInt x2_5) ∧ (Int32.toInt x2_5 ≤ 7) ∧ (0 ≤ Int32.toInt x1_4) ∧ (Int32.toInt x1_4 ≤ Int32.toInt x2_5) := ha
    obtain ⟨a_6, a_7, a_8, a_9, a_10⟩ := ha
    show dOk (zX10_ones_4b  (fun x0 x1 x2 => k_2 (x0, x1, x2)) x0_3 x1_4 x2_5) _
    unfold zX10_ones_4b
    subst x0_3
    refine dOk_le (A := 7) (B := Int32.toInt x2_5) (by decide) rfl (fun c_11 => ?_) (fun c_12 => ?_)
    · exact dOk_some (show (0 ≤ Int32.toInt x1_4 ∧ Int32.toInt x1_4 ≤ 7) from (by omega))
    · have t_13 := ti_and1 (p1 >>> ((x2_5 : Int32) &&& 31))
      try have t_14 : Int32.toInt (x1_4 + (p1 >>> ((x2_5 : Int32) &&& 31) &&& 1)) = Int32.toInt x1_4 + Int32.toInt (p1 >>> ((x2_5 : Int32) &&& 31) &&& 1) := ti_add rfl rfl (by omega) (by omega)
      try have t_15 : Int32.toInt (x2_5 + 1) = Int32.toInt x2_5 + 1 := ti_add rfl (by decide) (by omega) (by omega)
      exact hk_1 (p1, (x1_4 + (p1 >>> ((x2_5 : Int32) &&& 31) &&& 1)), (x2_5 + 1)) (show (p1 = p1) ∧ (0 ≤ Int32.toInt (x2_5 + 1)) ∧ (Int32.toInt (x2_5 + 1) ≤ 7) ∧ (0 ≤ Int32.toInt (x1_4 + (p1 >>> ((x2_5 : Int32) &&& 31) &&& 1))) ∧ (Int32.toInt (x1_4 + (p1 >>> ((x2_5 : Int32) &&& 31) &&& 1)) ≤ Int32.toInt (x2_5 + 1)) from ⟨rfl, by omega, by omega, by omega, by omega⟩) (show (7 - Int32.toInt (x2_5 + 1)).toNat < (7 - Int32.toInt x2_5).toNat by omega)
  · exact (show (p1 = p1) ∧ (0 ≤ (0 : Int)) ∧ ((0 : Int) ≤ 7) ∧ (0 ≤ (0 : Int)) ∧ ((0 : Int) ≤ (0 : Int)) from ⟨rfl, by omega, by omega, by omega, by omega⟩)
  · show (7 - (0 : Int)).toNat < 1000000000000
    omega
end
section
set_option maxHeartbeats 4000000 in
set_option maxRecDepth 100000 in
theorem ok_isBit (p1 : Int32) : dOk (zX10_isBit p1) (fun (o : Int32) => ((Int32.toInt o = 1 ∧ 0 ≤ Int32.toInt p1 ∧ Int32.toInt p1 ≤ 1) ∨ (Int32.toInt o = 0 ∧ (Int32.toInt p1 < 0 ∨ 1 < Int32.toInt p1)))) := by
  unfold zX10_isBit
  refine dOk_V (ok_lies p1 0 1) (fun r_1 h_2 => ?_)
  replace h_2 : ((Int32.toInt r_1 = 1 ∧ (0 : Int) ≤ Int32.toInt p1 ∧ Int32.toInt p1 ≤ (1 : Int)) ∨ (Int32.toInt r_1 = 0 ∧ (Int32.toInt p1 < (0 : Int) ∨ (1 : Int) < Int32.toInt p1))) := h_2
  have i_3 := h_2
  refine dOk_G (dbl_ok (show Int32.toInt r_1 = 0 ∨ Int32.toInt r_1 = 1 by omega)) ?_
  exact dOk_some (show ((Int32.toInt r_1 = 1 ∧ 0 ≤ Int32.toInt p1 ∧ Int32.toInt p1 ≤ 1) ∨ (Int32.toInt r_1 = 0 ∧ (Int32.toInt p1 < 0 ∨ 1 < Int32.toInt p1))) from (by omega))

set_option maxHeartbeats 4000000 in
set_option maxRecDepth 100000 in
theorem ok_isRank (p1 : Int32) : dOk (zX10_isRank p1) (fun (o : Int32) => ((Int32.toInt o = 1 ∧ 0 ≤ Int32.toInt p1 ∧ Int32.toInt p1 ≤ 5) ∨ (Int32.toInt o = 0 ∧ (Int32.toInt p1 < 0 ∨ 5 < Int32.toInt p1)))) := by
  unfold zX10_isRank
  refine dOk_V (ok_lies p1 0 5) (fun r_1 h_2 => ?_)
  replace h_2 : ((Int32.toInt r_1 = 1 ∧ (0 : Int) ≤ Int32.toInt p1 ∧ Int32.toInt p1 ≤ (5 : Int)) ∨ (Int32.toInt r_1 = 0 ∧ (Int32.toInt p1 < (0 : Int) ∨ (5 : Int) < Int32.toInt p1))) := h_2
  have i_3 := h_2
  refine dOk_G (dbl_ok (show Int32.toInt r_1 = 0 ∨ Int32.toInt r_1 = 1 by omega)) ?_
  exact dOk_some (show ((Int32.toInt r_1 = 1 ∧ 0 ≤ Int32.toInt p1 ∧ Int32.toInt p1 ≤ 5) ∨ (Int32.toInt r_1 = 0 ∧ (Int32.toInt p1 < 0 ∨ 5 < Int32.toInt p1))) from (by omega))

set_option maxHeartbeats 4000000 in
set_option maxRecDepth 100000 in
theorem ok_laysAside (q : dS) (p1 : Int32) (hT : TS q) (hp0 : 0 ≤ Int32.toInt p1) (hp1 : Int32.toInt p1 ≤ 1) : dOk (zX10_laysAside q p1) (fun (o : dS) => (TS o) ∧ (dFr [5] [] q o)) := by
  unfold zX10_laysAside
  unfold zX10_laysAside_2
  refine dFix_ok (fun (a : dS × Int32 × Int32) => (TS a.1) ∧ (dFr [5] [] q a.1) ∧ (a.2.1 = p1) ∧ (0 ≤ Int32.toInt a.2.2) ∧ (Int32.toInt a.2.2 ≤ 14)) (fun (a : dS × Int32 × Int32) => (14 - Int32.toInt a.2.2).toNat) ?_ _ ?_ _ (dF_gt ?_)
  · intro a ha k_2 hk_1
    obtain ⟨q_3, x1_4, x2_5⟩ := a
    replace ha : (TS q_3) ∧ (dFr [5] [] q q_3) ∧ (x1_4 = p1) ∧ (0 ≤ Int32.toInt x2_5) ∧ (Int32.toInt x2_5 ≤ 14) := ha
    obtain ⟨a_6, a_7, a_8, a_9, a_10⟩ := ha
    show dOk (zX10_laysAside_2b  (fun q x1 x2 => k_2 (q, x1, x2)) q_3 x1_4 x2_5) _
    unfold zX10_laysAside_2b
    have hFq_3 : dFr [5] [] q q_3 := (dFr.rf (q := q)).t a_7 (by decide) (by decide)
    subst x1_4
    refine dOk_le (A := 14) (B := Int32.toInt x2_5) (by decide) rfl (fun c_11 => ?_) (fun c_12 => ?_)
    · exact dOk_some (show (TS q_3) ∧ (dFr [5] [] q q_3) from ⟨a_6, hFq_3⟩)
    · refine dOk_G (dg_ok (show 0 ≤ Int32.toInt x2_5 by omega) (show Int32.toInt x2_5 < ((5640 : Nat) : Int) by omega)) ?_
      have n_13 : ((Int32.toNatClampNeg x2_5 : Nat) : Int) = Int32.toInt x2_5 := cl_eq (by omega)
      refine dOk_L (fun v_14 ev_14 => ?_)
      try have g_15 : klo (Int32.toNatClampNeg x2_5) ≤ Int32.toInt v_14 ∧ Int32.toInt v_14 ≤ khi (Int32.toNatClampNeg x2_5) := by rw [ev_14]; exact te_k a_6 _
      try have f_16 : 0 ≤ Int32.toInt v_14 ∧ Int32.toInt v_14 ≤ 5 := by rw [ev_14]; exact te_2r a_6 (by omega) (by omega)
      try have f_17 : 0 ≤ Int32.toInt v_14 ∧ Int32.toInt v_14 ≤ 1 := by rw [ev_14]; exact te_2h a_6 (by omega) (by omega)
      try have f_18 : 0 ≤ Int32.toInt v_14 ∧ Int32.toInt v_14 ≤ 5 := by rw [ev_14]; exact te_2s a_6 (by omega) (by omega)
      try have f_19 : 0 ≤ Int32.toInt v_14 ∧ Int32.toInt v_14 ≤ 400 := by rw [ev_14]; exact te_2z a_6 (by omega) (by omega)
      try have t_20 : Int32.toInt (14 * p1) = 14 * Int32.toInt p1 := ti_mul (by decide) rfl (by omega) (by omega)
      try have t_21 : Int32.toInt (14 * p1 + x2_5) = Int32.toInt (14 * p1) + Int32.toInt x2_5 := ti_add rfl rfl (by omega) (by omega)
      refine dOk_G (dg_ok (show 0 ≤ Int32.toInt (14 * p1 + x2_5) by omega) (show Int32.toInt (14 * p1 + x2_5) < ((28 : Nat) : Int) by omega)) ?_
      have n_22 : ((Int32.toNatClampNeg (14 * p1 + x2_5) : Nat) : Int) = Int32.toInt (14 * p1 + x2_5) := cl_eq (by omega)
      refine dOk_L (fun q_23 eq_23 => ?_)
      have hTq_23 : TS q_23 := by rw [eq_23]; first | exact ts_5 a_6 (show (Int32.toNatClampNeg (14 * p1 + x2_5)) % 14 = Int32.toNatClampNeg x2_5 by omega) g_15 | exact ts_set a_6 (by decide) (by simp only [tlo, klo]; omega) (by simp only [thi, khi]; omega)
      have hFq_23 : dFr [5] [] q q_23 := by rw [eq_23]; exact hFq_3.i (by decide) (by decide)
      try have t_24 : Int32.toInt (x2_5 + 1) = Int32.toInt x2_5 + 1 := ti_add rfl (by decide) (by omega) (by omega)
      exact hk_1 (q_23, p1, (x2_5 + 1)) (show (TS q_23) ∧ (dFr [5] [] q q_23) ∧ (p1 = p1) ∧ (0 ≤ Int32.toInt (x2_5 + 1)) ∧ (Int32.toInt (x2_5 + 1) ≤ 14) from ⟨hTq_23, (by rw [eq_23]; exact (((dFr.rf : dFr [5] [] q q).t a_7 (by decide) (by decide)) : dFr [5] [] q q_3).i (by decide) (by decide)), rfl, by omega, by omega⟩) (show (14 - Int32.toInt (x2_5 + 1)).toNat < (14 - Int32.toInt x2_5).toNat by omega)
  · exact (show (TS q) ∧ (dFr [5] [] q q) ∧ (p1 = p1) ∧ (0 ≤ (0 : Int)) ∧ ((0 : Int) ≤ 14) from ⟨hT, dFr.rf, rfl, by omega, by omega⟩)
  · show (14 - (0 : Int)).toNat < 1000000000000
    omega

set_option maxHeartbeats 4000000 in
set_option maxRecDepth 100000 in
theorem ok_takesBack (q : dS) (p1 : Int32) (hT : TS q) (hp0 : 0 ≤ Int32.toInt p1) (hp1 : Int32.toInt p1 ≤ 1) : dOk (zX10_takesBack q p1) (fun (o : dS) => (TS o) ∧ (dFk [2] [] q o)) := by
  unfold zX10_takesBack
  unfold zX10_takesBack_2
  refine dFix_ok (fun (a : dS × Int32 × Int32) => (TS a.1) ∧ (dFk [2] [] q a.1) ∧ (a.2.1 = p1) ∧ (0 ≤ Int32.toInt a.2.2) ∧ (Int32.toInt a.2.2 ≤ 14)) (fun (a : dS × Int32 × Int32) => (14 - Int32.toInt a.2.2).toNat) ?_ _ ?_ _ (dF_gt ?_)
  · intro a ha k_2 hk_1
    obtain ⟨q_3, x1_4, x2_5⟩ := a
    replace ha : (TS q_3) ∧ (dFk [2] [] q q_3) ∧ (x1_4 = p1) ∧ (0 ≤ Int32.toInt x2_5) ∧ (Int32.toInt x2_5 ≤ 14) := ha
    obtain ⟨a_6, a_7, a_8, a_9, a_10⟩ := ha
    show dOk (zX10_takesBack_2b  (fun q x1 x2 => k_2 (q, x1, x2)) q_3 x1_4 x2_5) _
    unfold zX10_takesBack_2b
    have hFq_3 : dFk [2] [] q q_3 := (dFk.rf (q := q)).t a_7 (by decide) (by decide)
    subst x1_4
    refine dOk_le (A := 14) (B := Int32.toInt x2_5) (by decide) rfl (fun c_11 => ?_) (fun c_12 => ?_)
    · exact dOk_some (show (TS q_3) ∧ (dFk [2] [] q q_3) from ⟨a_6, hFq_3⟩)
    · try have t_13 : Int32.toInt (14 * p1) = 14 * Int32.toInt p1 := ti_mul (by decide) rfl (by omega) (by omega)
      try have t_14 : Int32.toInt (14 * p1 + x2_5) = Int32.toInt (14 * p1) + Int32.toInt x2_5 := ti_add rfl rfl (by omega) (by omega)
      refine dOk_G (dg_ok (show 0 ≤ Int32.toInt (14 * p1 + x2_5) by omega) (show Int32.toInt (14 * p1 + x2_5) < ((28 : Nat) : Int) by omega)) ?_
      have n_15 : ((Int32.toNatClampNeg (14 * p1 + x2_5) : Nat) : Int) = Int32.toInt (14 * p1 + x2_5) := cl_eq (by omega)
      refine dOk_L (fun v_16 ev_16 => ?_)
      try have g_17 : klo ((Int32.toNatClampNeg (14 * p1 + x2_5)) % 14) ≤ Int32.toInt v_16 ∧ Int32.toInt v_16 ≤ khi ((Int32.toNatClampNeg (14 * p1 + x2_5)) % 14) := by rw [ev_16]; exact te_5 a_6 _
      refine dOk_G (dg_ok (show 0 ≤ Int32.toInt x2_5 by omega) (show Int32.toInt x2_5 < ((5640 : Nat) : Int) by omega)) ?_
      have n_18 : ((Int32.toNatClampNeg x2_5 : Nat) : Int) = Int32.toInt x2_5 := cl_eq (by omega)
      refine dOk_L (fun q_19 eq_19 => ?_)
      have hTq_19 : TS q_19 := by rw [eq_19]; first | exact ts_2c a_6 (by omega) (show Int32.toNatClampNeg x2_5 = (Int32.toNatClampNeg (14 * p1 + x2_5)) % 14 by omega) g_17 | exact ts_set2 a_6 (by omega) (show klo (Int32.toNatClampNeg x2_5) ≤ Int32.toInt v_16 by unfold klo; omega) (show Int32.toInt v_16 ≤ khi (Int32.toNatClampNeg x2_5) by unfold khi; omega)
      have hFq_19 : dFk [2] [] q q_19 := by rw [eq_19]; exact hFq_3.k (by omega) (by decide)
      try have t_20 : Int32.toInt (x2_5 + 1) = Int32.toInt x2_5 + 1 := ti_add rfl (by decide) (by omega) (by omega)
      exact hk_1 (q_19, p1, (x2_5 + 1)) (show (TS q_19) ∧ (dFk [2] [] q q_19) ∧ (p1 = p1) ∧ (0 ≤ Int32.toInt (x2_5 + 1)) ∧ (Int32.toInt (x2_5 + 1) ≤ 14) from ⟨hTq_19, (by rw [eq_19]; exact (((dFk.rf : dFk [2] [] q q).t a_7 (by decide) (by decide)) : dFk [2] [] q q_3).k (by omega) (by decide)), rfl, by omega, by omega⟩) (show (14 - Int32.toInt (x2_5 + 1)).toNat < (14 - Int32.toInt x2_5).toNat by omega)
  · exact (show (TS q) ∧ (dFk [2] [] q q) ∧ (p1 = p1) ∧ (0 ≤ (0 : Int)) ∧ ((0 : Int) ≤ 14) from ⟨hT, dFk.rf, rfl, by omega, by omega⟩)
  · show (14 - (0 : Int)).toNat < 1000000000000
    omega

set_option maxHeartbeats 4000000 in
set_option maxRecDepth 100000 in
theorem ok_size (q : dS) (hT : TS q) : dOk (zX10_size q) (fun (o : Int32 × dS) => (o.2 = q) ∧ (Int32.toInt o.1 = Int32.toInt (q.1 2 29)) ∧ (0 ≤ Int32.toInt o.1 ∧ Int32.toInt o.1 ≤ 6)) := by
  unfold zX10_size
  have f_1 : 0 ≤ Int32.toInt (q.1 2 29) ∧ Int32.toInt (q.1 2 29) ≤ 6 := hT.1 2 29
  exact dOk_some (show (q = q) ∧ (Int32.toInt (q.1 2 29) = Int32.toInt (q.1 2 29)) ∧ (0 ≤ Int32.toInt (q.1 2 29) ∧ Int32.toInt (q.1 2 29) ≤ 6) from ⟨rfl, by omega, by omega⟩)

set_option maxHeartbeats 4000000 in
set_option maxRecDepth 100000 in
theorem ok_isPlace (q : dS) (p1 : Int32) (hT : TS q) : dOk (zX10_isPlace q p1) (fun (o : Int32 × dS) => (o.2 = q) ∧ ((Int32.toInt o.1 = 1 ∧ 0 ≤ Int32.toInt p1 ∧ Int32.toInt p1 < Int32.toInt (q.1 2 29)) ∨ (Int32.toInt o.1 = 0 ∧ (Int32.toInt p1 < 0 ∨ Int32.toInt (q.1 2 29) ≤ Int32.toInt p1)))) := by
  unfold zX10_isPlace
  refine dOk_B (ok_size q hT) (fun r_1 q_2 h_3 => ?_)
  replace h_3 : (q_2 = q) ∧ (Int32.toInt r_1 = Int32.toInt (q.1 2 29)) ∧ (0 ≤ Int32.toInt r_1 ∧ Int32.toInt r_1 ≤ 6) := h_3
  obtain ⟨i_4, i_5, i_6⟩ := h_3
  subst q_2
  have f_7 : 0 ≤ Int32.toInt (q.1 2 29) ∧ Int32.toInt (q.1 2 29) ≤ 6 := hT.1 2 29
  try have t_8 : Int32.toInt (r_1 - 1) = Int32.toInt r_1 - 1 := ti_sub rfl (by decide) (by omega) (by omega)
  refine dOk_V (ok_lies p1 0 (r_1 - 1)) (fun r_9 h_10 => ?_)
  replace h_10 : ((Int32.toInt r_9 = 1 ∧ (0 : Int) ≤ Int32.toInt p1 ∧ Int32.toInt p1 ≤ Int32.toInt (r_1 - 1)) ∨ (Int32.toInt r_9 = 0 ∧ (Int32.toInt p1 < (0 : Int) ∨ Int32.toInt (r_1 - 1) < Int32.toInt p1))) := h_10
  have i_11 := h_10
  refine dOk_G (dbl_ok (show Int32.toInt r_9 = 0 ∨ Int32.toInt r_9 = 1 by omega)) ?_
  exact dOk_some (show (q = q) ∧ ((Int32.toInt r_9 = 1 ∧ 0 ≤ Int32.toInt p1 ∧ Int32.toInt p1 < Int32.toInt (q.1 2 29)) ∨ (Int32.toInt r_9 = 0 ∧ (Int32.toInt p1 < 0 ∨ Int32.toInt (q.1 2 29) ≤ Int32.toInt p1))) from ⟨rfl, by omega⟩)

set_option maxHeartbeats 4000000 in
set_option maxRecDepth 100000 in
theorem ok_placeOf (q : dS) (p1 : Int32) (hT : TS q) : dOk (zX10_placeOf q p1) (fun (o : Int32 × dS) => (o.2 = q) ∧ (-1 ≤ Int32.toInt o.1 ∧ Int32.toInt o.1 ≤ 5)) := by
  unfold zX10_placeOf
  unfold zX10_placeOf_4
  refine dFix_ok (fun (a : dS × Int32 × Int32 × Int32) => (a.1 = q) ∧ (a.2.1 = p1) ∧ (0 ≤ Int32.toInt a.2.2.2) ∧ (Int32.toInt a.2.2.2 ≤ 6) ∧ (-1 ≤ Int32.toInt a.2.2.1 ∧ Int32.toInt a.2.2.1 ≤ 5)) (fun (a : dS × Int32 × Int32 × Int32) => (6 - Int32.toInt a.2.2.2).toNat) ?_ _ ?_ _ (dF_gt ?_)
  · intro a ha k_2 hk_1
    obtain ⟨q_3, x1_4, x2_5, x3_6⟩ := a
    replace ha : (q_3 = q) ∧ (x1_4 = p1) ∧ (0 ≤ Int32.toInt x3_6) ∧ (Int32.toInt x3_6 ≤ 6) ∧ (-1 ≤ Int32.toInt x2_5 ∧ Int32.toInt x2_5 ≤ 5) := ha
    obtain ⟨a_7, a_8, a_9, a_10, a_11⟩ := ha
    show dOk (zX10_placeOf_4b  (fun q x1 x2 x3 => k_2 (q, x1, x2, x3)) q_3 x1_4 x2_5 x3_6) _
    unfold zX10_placeOf_4b
    subst q_3
    subst x1_4
    refine dOk_B (ok_size q hT) (fun r_12 q_13 h_14 => ?_)
    replace h_14 : (q_13 = q) ∧ (Int32.toInt r_12 = Int32.toInt (q.1 2 29)) ∧ (0 ≤ Int32.toInt r_12 ∧ Int32.toInt r_12 ≤ 6) := h_14
    obtain ⟨i_15, i_16, i_17⟩ := h_14
    subst q_13
    have f_18 : 0 ≤ Int32.toInt (q.1 2 29) ∧ Int32.toInt (q.1 2 29) ≤ 6 := hT.1 2 29
    refine dOk_le (A := Int32.toInt r_12) (B := Int32.toInt x3_6) rfl rfl (fun c_19 => ?_) (fun c_20 => ?_)
    · exact dOk_some (show (q = q) ∧ (-1 ≤ Int32.toInt x2_5 ∧ Int32.toInt x2_5 ≤ 5) from ⟨rfl, by omega⟩)
    · try have t_21 : Int32.toInt (0 + x3_6) = 0 + Int32.toInt x3_6 := ti_add (by decide) rfl (by omega) (by omega)
      refine dOk_G (dg_ok (show 0 ≤ Int32.toInt (0 + x3_6) by omega) (show Int32.toInt (0 + x3_6) < ((5640 : Nat) : Int) by omega)) ?_
      have n_22 : ((Int32.toNatClampNeg (0 + x3_6) : Nat) : Int) = Int32.toInt (0 + x3_6) := cl_eq (by omega)
      refine dOk_L (fun v_23 ev_23 => ?_)
      try have g_24 : klo (Int32.toNatClampNeg (0 + x3_6)) ≤ Int32.toInt v_23 ∧ Int32.toInt v_23 ≤ khi (Int32.toNatClampNeg (0 + x3_6)) := by rw [ev_23]; exact te_k hT _
      try have f_25 : 0 ≤ Int32.toInt v_23 ∧ Int32.toInt v_23 ≤ 5 := by rw [ev_23]; exact te_2r hT (by omega) (by omega)
      try have f_26 : 0 ≤ Int32.toInt v_23 ∧ Int32.toInt v_23 ≤ 1 := by rw [ev_23]; exact te_2h hT (by omega) (by omega)
      try have f_27 : 0 ≤ Int32.toInt v_23 ∧ Int32.toInt v_23 ≤ 5 := by rw [ev_23]; exact te_2s hT (by omega) (by omega)
      try have f_28 : 0 ≤ Int32.toInt v_23 ∧ Int32.toInt v_23 ≤ 400 := by rw [ev_23]; exact te_2z hT (by omega) (by omega)
      refine dOk_eq (A := Int32.toInt v_23) (B := Int32.toInt p1) rfl rfl (fun c_29z c_29 => ?_) (fun c_30z c_30 => ?_)
      · unfold zX10_placeOf_29
        try have t_32 : Int32.toInt (x3_6 + 1) = Int32.toInt x3_6 + 1 := ti_add rfl (by decide) (by omega) (by omega)
        exact hk_1 (q, p1, x3_6, (x3_6 + 1)) (show (q = q) ∧ (p1 = p1) ∧ (0 ≤ Int32.toInt (x3_6 + 1)) ∧ (Int32.toInt (x3_6 + 1) ≤ 6) ∧ (-1 ≤ Int32.toInt x3_6 ∧ Int32.toInt x3_6 ≤ 5) from ⟨rfl, rfl, by omega, by omega, by omega⟩) (show (6 - Int32.toInt (x3_6 + 1)).toNat < (6 - Int32.toInt x3_6).toNat by omega)
      · unfold zX10_placeOf_29
        try have t_33 : Int32.toInt (x3_6 + 1) = Int32.toInt x3_6 + 1 := ti_add rfl (by decide) (by omega) (by omega)
        exact hk_1 (q, p1, x2_5, (x3_6 + 1)) (show (q = q) ∧ (p1 = p1) ∧ (0 ≤ Int32.toInt (x3_6 + 1)) ∧ (Int32.toInt (x3_6 + 1) ≤ 6) ∧ (-1 ≤ Int32.toInt x2_5 ∧ Int32.toInt x2_5 ≤ 5) from ⟨rfl, rfl, by omega, by omega, by omega⟩) (show (6 - Int32.toInt (x3_6 + 1)).toNat < (6 - Int32.toInt x3_6).toNat by omega)
  · exact (show (q = q) ∧ (p1 = p1) ∧ (0 ≤ (0 : Int)) ∧ ((0 : Int) ≤ 6) ∧ (-1 ≤ (-1 : Int) ∧ (-1 : Int) ≤ 5) from ⟨rfl, rfl, by omega, by omega, by omega⟩)
  · show (6 - (0 : Int)).toNat < 1000000000000
    omega

set_option maxHeartbeats 4000000 in
set_option maxRecDepth 100000 in
theorem ok_adds (q : dS) (p1 : Int32) (p2 : Int32) (hT : TS q) (hp0 : Int32.toInt (q.1 2 29) < 6) (hp1 : 0 ≤ Int32.toInt p1 ∧ Int32.toInt p1 ≤ 5) (hp2 : 0 ≤ Int32.toInt p2 ∧ Int32.toInt p2 ≤ 1) : dOk (zX10_adds q p1 p2) (fun (o : dS) => (TS o) ∧ (dFr [2] [] q o) ∧ (Int32.toInt (o.1 2 29) = Int32.toInt (q.1 2 29) + 1) ∧ (Int32.toInt (o.1 2 30) = Int32.toInt (q.1 2 30)) ∧ (Int32.toInt (o.1 2 26) = Int32.toInt (q.1 2 26))) := by
  unfold zX10_adds
  refine dOk_B (ok_size q hT) (fun r_1 q_2 h_3 => ?_)
  replace h_3 : (q_2 = q) ∧ (Int32.toInt r_1 = Int32.toInt (q.1 2 29)) ∧ (0 ≤ Int32.toInt r_1 ∧ Int32.toInt r_1 ≤ 6) := h_3
  obtain ⟨i_4, i_5, i_6⟩ := h_3
  subst q_2
  have f_7 : 0 ≤ Int32.toInt (q.1 2 29) ∧ Int32.toInt (q.1 2 29) ≤ 6 := hT.1 2 29
  try have t_8 : Int32.toInt (0 + r_1) = 0 + Int32.toInt r_1 := ti_add (by decide) rfl (by omega) (by omega)
  refine dOk_G (dg_ok (show 0 ≤ Int32.toInt (0 + r_1) by omega) (show Int32.toInt (0 + r_1) < ((5640 : Nat) : Int) by omega)) ?_
  have n_9 : ((Int32.toNatClampNeg (0 + r_1) : Nat) : Int) = Int32.toInt (0 + r_1) := cl_eq (by omega)
  refine dOk_L (fun q_10 eq_10 => ?_)
  have hTq_10 : TS q_10 := by rw [eq_10]; exact ts_set2 hT (by omega) (show klo (Int32.toNatClampNeg (0 + r_1)) ≤ Int32.toInt p1 by unfold klo; omega) (show Int32.toInt p1 ≤ khi (Int32.toNatClampNeg (0 + r_1)) by unfold khi; omega)
  have hFq_10 : dFr [2] [] q q_10 := by rw [eq_10]; exact (dFr.rf (q := q)).i (by decide) (by decide)
  refine dOk_B (ok_size q_10 hTq_10) (fun r_11 q_12 h_13 => ?_)
  replace h_13 : (q_12 = q_10) ∧ (Int32.toInt r_11 = Int32.toInt (q_10.1 2 29)) ∧ (0 ≤ Int32.toInt r_11 ∧ Int32.toInt r_11 ≤ 6) := h_13
  obtain ⟨i_14, i_15, i_16⟩ := h_13
  subst q_12
  have f_17 : 0 ≤ Int32.toInt (q_10.1 2 29) ∧ Int32.toInt (q_10.1 2 29) ≤ 6 := hTq_10.1 2 29
  try have w_18 : Int32.toInt (q_10.1 2 29) = Int32.toInt (q.1 2 29) := by rw [eq_10, dui_n (by omega)]
  try have t_19 : Int32.toInt (6 + r_11) = 6 + Int32.toInt r_11 := ti_add (by decide) rfl (by omega) (by omega)
  refine dOk_G (dg_ok (show 0 ≤ Int32.toInt (6 + r_11) by omega) (show Int32.toInt (6 + r_11) < ((5640 : Nat) : Int) by omega)) ?_
  have n_20 : ((Int32.toNatClampNeg (6 + r_11) : Nat) : Int) = Int32.toInt (6 + r_11) := cl_eq (by omega)
  refine dOk_L (fun q_21 eq_21 => ?_)
  have hTq_21 : TS q_21 := by rw [eq_21]; exact ts_set2 hTq_10 (by omega) (show klo (Int32.toNatClampNeg (6 + r_11)) ≤ Int32.toInt p2 by unfold klo; omega) (show Int32.toInt p2 ≤ khi (Int32.toNatClampNeg (6 + r_11)) by unfold khi; omega)
  have hFq_21 : dFr [2] [] q q_21 := by rw [eq_21]; exact hFq_10.i (by decide) (by decide)
  refine dOk_L (fun q_22 eq_22 => ?_)
  have f_23 : 0 ≤ Int32.toInt (q_21.1 2 29) ∧ Int32.toInt (q_21.1 2 29) ≤ 6 := hTq_21.1 2 29
  try have w_24 : Int32.toInt (q_21.1 2 29) = Int32.toInt (q_10.1 2 29) := by rw [eq_21, dui_n (by omega)]
  try have t_25 : Int32.toInt (q_21.1 2 29 + 1) = Int32.toInt (q_21.1 2 29) + 1 := ti_add rfl (by decide) (by omega) (by omega)
  have hTq_22 : TS q_22 := by rw [eq_22]; exact ts_set2 hTq_21 (by omega) (show klo (29) ≤ Int32.toInt (q_21.1 2 29 + 1) by unfold klo; omega) (show Int32.toInt (q_21.1 2 29 + 1) ≤ khi (29) by unfold khi; omega)
  have hFq_22 : dFr [2] [] q q_22 := by rw [eq_22]; exact hFq_21.i (by decide) (by decide)
  have f_26 : 0 ≤ Int32.toInt (q_22.1 2 29) ∧ Int32.toInt (q_22.1 2 29) ≤ 6 := hTq_22.1 2 29
  have w_27 : Int32.toInt (q_22.1 2 29) = Int32.toInt (q_21.1 2 29 + 1) := by rw [eq_22, dui_e]
  have f_28 : 0 ≤ Int32.toInt (q_22.1 2 30) ∧ Int32.toInt (q_22.1 2 30) ≤ 6 := hTq_22.1 2 30
  have f_29 : 0 ≤ Int32.toInt (q_21.1 2 30) ∧ Int32.toInt (q_21.1 2 30) ≤ 6 := hTq_21.1 2 30
  have f_30 : 0 ≤ Int32.toInt (q_10.1 2 30) ∧ Int32.toInt (q_10.1 2 30) ≤ 6 := hTq_10.1 2 30
  have f_31 : 0 ≤ Int32.toInt (q.1 2 30) ∧ Int32.toInt (q.1 2 30) ≤ 6 := hT.1 2 30
  try have w_32 : Int32.toInt (q_10.1 2 30) = Int32.toInt (q.1 2 30) := by rw [eq_10, dui_n (by omega)]
  try have w_33 : Int32.toInt (q_21.1 2 30) = Int32.toInt (q_10.1 2 30) := by rw [eq_21, dui_n (by omega)]
  have w_34 : Int32.toInt (q_22.1 2 30) = Int32.toInt (q_21.1 2 30) := by rw [eq_22, dui_n (by decide)]
  have f_35 : 0 ≤ Int32.toInt (q_22.1 2 26) ∧ Int32.toInt (q_22.1 2 26) ≤ 10 := hTq_22.1 2 26
  have f_36 : 0 ≤ Int32.toInt (q_21.1 2 26) ∧ Int32.toInt (q_21.1 2 26) ≤ 10 := hTq_21.1 2 26
  have f_37 : 0 ≤ Int32.toInt (q_10.1 2 26) ∧ Int32.toInt (q_10.1 2 26) ≤ 10 := hTq_10.1 2 26
  have f_38 : 0 ≤ Int32.toInt (q.1 2 26) ∧ Int32.toInt (q.1 2 26) ≤ 10 := hT.1 2 26
  try have w_39 : Int32.toInt (q_10.1 2 26) = Int32.toInt (q.1 2 26) := by rw [eq_10, dui_n (by omega)]
  try have w_40 : Int32.toInt (q_21.1 2 26) = Int32.toInt (q_10.1 2 26) := by rw [eq_21, dui_n (by omega)]
  have w_41 : Int32.toInt (q_22.1 2 26) = Int32.toInt (q_21.1 2 26) := by rw [eq_22, dui_n (by decide)]
  exact dOk_some (show (TS q_22) ∧ (dFr [2] [] q q_22) ∧ (Int32.toInt (q_22.1 2 29) = Int32.toInt (q.1 2 29) + 1) ∧ (Int32.toInt (q_22.1 2 30) = Int32.toInt (q.1 2 30)) ∧ (Int32.toInt (q_22.1 2 26) = Int32.toInt (q.1 2 26)) from ⟨hTq_22, hFq_22, by omega, by omega, by omega⟩)
end
section
set_option maxHeartbeats 4000000 in
set_option maxRecDepth 100000 in
theorem ok_floor (q : dS) (p1 : Int32) (p2 : Int32) (hT : TS q) : dOk (zX10_floor q p1 p2) (fun (o : Int32 × dS) => (TS o.2) ∧ (dFr [1, 2] [0, 32] q o.2) ∧ (Int32.toInt (o.2.1 2 30) = Int32.toInt (q.1 2 30)) ∧ (Int32.toInt (o.2.1 2 26) = Int32.toInt (q.1 2 26))) := by
  unfold zX10_floor
  refine dOk_V (ok_isRank p1) (fun r_1 h_2 => ?_)
  replace h_2 : ((Int32.toInt r_1 = 1 ∧ 0 ≤ Int32.toInt p1 ∧ Int32.toInt p1 ≤ 5) ∨ (Int32.toInt r_1 = 0 ∧ (Int32.toInt p1 < 0 ∨ 5 < Int32.toInt p1))) := h_2
  have i_3 := h_2
  refine dOk_eq (A := Int32.toInt r_1) (B := 0) rfl (by decide) (fun c_4z c_4 => ?_) (fun c_5z c_5 => ?_)
  · unfold zX10_floor_14
    refine dOk_B (ok_refuses q (-1) hT (show (-6) ≤ (-1 : Int) by omega) (show (-1 : Int) ≤ 0 by omega)) (fun r_7 q_8 h_9 => ?_)
    replace h_9 : (TS q_8) ∧ (dFr [1] [0] q q_8) ∧ (Int32.toInt r_7 = (-1 : Int)) := h_9
    obtain ⟨i_10, i_11, i_12⟩ := h_9
    have hFq_8 : dFr [1, 2] [0, 32] q q_8 := (dFr.rf (q := q)).t i_11 (by decide) (by decide)
    have f_13 : 0 ≤ Int32.toInt (q_8.1 2 30) ∧ Int32.toInt (q_8.1 2 30) ≤ 6 := i_10.1 2 30
    have f_14 : 0 ≤ Int32.toInt (q.1 2 30) ∧ Int32.toInt (q.1 2 30) ≤ 6 := hT.1 2 30
    have w_15 : Int32.toInt (q_8.1 2 30) = Int32.toInt (q.1 2 30) := by rw [i_11.1 2 (by decide) (by decide)]
    have f_16 : 0 ≤ Int32.toInt (q_8.1 2 26) ∧ Int32.toInt (q_8.1 2 26) ≤ 10 := i_10.1 2 26
    have f_17 : 0 ≤ Int32.toInt (q.1 2 26) ∧ Int32.toInt (q.1 2 26) ≤ 10 := hT.1 2 26
    have w_18 : Int32.toInt (q_8.1 2 26) = Int32.toInt (q.1 2 26) := by rw [i_11.1 2 (by decide) (by decide)]
    exact dOk_some (show (TS q_8) ∧ (dFr [1, 2] [0, 32] q q_8) ∧ (Int32.toInt (q_8.1 2 30) = Int32.toInt (q.1 2 30)) ∧ (Int32.toInt (q_8.1 2 26) = Int32.toInt (q.1 2 26)) from ⟨i_10, hFq_8, by omega, by omega⟩)
  · refine dOk_V (ok_isBit p2) (fun r_19 h_20 => ?_)
    replace h_20 : ((Int32.toInt r_19 = 1 ∧ 0 ≤ Int32.toInt p2 ∧ Int32.toInt p2 ≤ 1) ∨ (Int32.toInt r_19 = 0 ∧ (Int32.toInt p2 < 0 ∨ 1 < Int32.toInt p2))) := h_20
    have i_21 := h_20
    refine dOk_eq (A := Int32.toInt r_19) (B := 0) rfl (by decide) (fun c_22z c_22 => ?_) (fun c_23z c_23 => ?_)
    · unfold zX10_floor_14
      refine dOk_B (ok_refuses q (-1) hT (show (-6) ≤ (-1 : Int) by omega) (show (-1 : Int) ≤ 0 by omega)) (fun r_25 q_26 h_27 => ?_)
      replace h_27 : (TS q_26) ∧ (dFr [1] [0] q q_26) ∧ (Int32.toInt r_25 = (-1 : Int)) := h_27
      obtain ⟨i_28, i_29, i_30⟩ := h_27
      have hFq_26 : dFr [1, 2] [0, 32] q q_26 := (dFr.rf (q := q)).t i_29 (by decide) (by decide)
      have f_31 : 0 ≤ Int32.toInt (q_26.1 2 30) ∧ Int32.toInt (q_26.1 2 30) ≤ 6 := i_28.1 2 30
      have f_32 : 0 ≤ Int32.toInt (q.1 2 30) ∧ Int32.toInt (q.1 2 30) ≤ 6 := hT.1 2 30
      have w_33 : Int32.toInt (q_26.1 2 30) = Int32.toInt (q.1 2 30) := by rw [i_29.1 2 (by decide) (by decide)]
      have f_34 : 0 ≤ Int32.toInt (q_26.1 2 26) ∧ Int32.toInt (q_26.1 2 26) ≤ 10 := i_28.1 2 26
      have f_35 : 0 ≤ Int32.toInt (q.1 2 26) ∧ Int32.toInt (q.1 2 26) ≤ 10 := hT.1 2 26
      have w_36 : Int32.toInt (q_26.1 2 26) = Int32.toInt (q.1 2 26) := by rw [i_29.1 2 (by decide) (by decide)]
      exact dOk_some (show (TS q_26) ∧ (dFr [1, 2] [0, 32] q q_26) ∧ (Int32.toInt (q_26.1 2 30) = Int32.toInt (q.1 2 30)) ∧ (Int32.toInt (q_26.1 2 26) = Int32.toInt (q.1 2 26)) from ⟨i_28, hFq_26, by omega, by omega⟩)
    · refine dOk_B (ok_placeOf q p1 hT) (fun r_37 q_38 h_39 => ?_)
      replace h_39 : (q_38 = q) ∧ (-1 ≤ Int32.toInt r_37 ∧ Int32.toInt r_37 ≤ 5) := h_39
      obtain ⟨i_40, i_41⟩ := h_39
      subst q_38
      refine dOk_eq (A := Int32.toInt r_37) (B := (-1)) rfl (by decide) (fun c_42z c_42 => ?_) (fun c_43z c_43 => ?_)
      · refine dOk_B (ok_size q hT) (fun r_45 q_46 h_47 => ?_)
        replace h_47 : (q_46 = q) ∧ (Int32.toInt r_45 = Int32.toInt (q.1 2 29)) ∧ (0 ≤ Int32.toInt r_45 ∧ Int32.toInt r_45 ≤ 6) := h_47
        obtain ⟨i_48, i_49, i_50⟩ := h_47
        subst q_46
        have f_51 : 0 ≤ Int32.toInt (q.1 2 29) ∧ Int32.toInt (q.1 2 29) ≤ 6 := hT.1 2 29
        refine dOk_eq (A := Int32.toInt r_45) (B := 6) rfl (by decide) (fun c_52z c_52 => ?_) (fun c_53z c_53 => ?_)
        · refine dOk_B (ok_refuses q (-5) hT (show (-6) ≤ (-5 : Int) by omega) (show (-5 : Int) ≤ 0 by omega)) (fun r_55 q_56 h_57 => ?_)
          replace h_57 : (TS q_56) ∧ (dFr [1] [0] q q_56) ∧ (Int32.toInt r_55 = (-5 : Int)) := h_57
          obtain ⟨i_58, i_59, i_60⟩ := h_57
          have hFq_56 : dFr [1, 2] [0, 32] q q_56 := (dFr.rf (q := q)).t i_59 (by decide) (by decide)
          have f_61 : 0 ≤ Int32.toInt (q_56.1 2 30) ∧ Int32.toInt (q_56.1 2 30) ≤ 6 := i_58.1 2 30
          have f_62 : 0 ≤ Int32.toInt (q.1 2 30) ∧ Int32.toInt (q.1 2 30) ≤ 6 := hT.1 2 30
          have w_63 : Int32.toInt (q_56.1 2 30) = Int32.toInt (q.1 2 30) := by rw [i_59.1 2 (by decide) (by decide)]
          have f_64 : 0 ≤ Int32.toInt (q_56.1 2 26) ∧ Int32.toInt (q_56.1 2 26) ≤ 10 := i_58.1 2 26
          have f_65 : 0 ≤ Int32.toInt (q.1 2 26) ∧ Int32.toInt (q.1 2 26) ≤ 10 := hT.1 2 26
          have w_66 : Int32.toInt (q_56.1 2 26) = Int32.toInt (q.1 2 26) := by rw [i_59.1 2 (by decide) (by decide)]
          exact dOk_some (show (TS q_56) ∧ (dFr [1, 2] [0, 32] q q_56) ∧ (Int32.toInt (q_56.1 2 30) = Int32.toInt (q.1 2 30)) ∧ (Int32.toInt (q_56.1 2 26) = Int32.toInt (q.1 2 26)) from ⟨i_58, hFq_56, by omega, by omega⟩)
        · refine dOk_V (ok_adds q p1 p2 hT (show Int32.toInt (q.1 2 29) < 6 by omega) (show 0 ≤ Int32.toInt p1 ∧ Int32.toInt p1 ≤ 5 by omega) (show 0 ≤ Int32.toInt p2 ∧ Int32.toInt p2 ≤ 1 by omega)) (fun q_67 h_68 => ?_)
          replace h_68 : (TS q_67) ∧ (dFr [2] [] q q_67) ∧ (Int32.toInt (q_67.1 2 29) = Int32.toInt (q.1 2 29) + 1) ∧ (Int32.toInt (q_67.1 2 30) = Int32.toInt (q.1 2 30)) ∧ (Int32.toInt (q_67.1 2 26) = Int32.toInt (q.1 2 26)) := h_68
          obtain ⟨i_69, i_70, i_71, i_72, i_73⟩ := h_68
          have hFq_67 : dFr [1, 2] [0, 32] q q_67 := (dFr.rf (q := q)).t i_70 (by decide) (by decide)
          have f_74 : 0 ≤ Int32.toInt (q_67.1 2 29) ∧ Int32.toInt (q_67.1 2 29) ≤ 6 := i_69.1 2 29
          have f_75 : 0 ≤ Int32.toInt (q_67.1 2 30) ∧ Int32.toInt (q_67.1 2 30) ≤ 6 := i_69.1 2 30
          have f_76 : 0 ≤ Int32.toInt (q.1 2 30) ∧ Int32.toInt (q.1 2 30) ≤ 6 := hT.1 2 30
          have f_77 : 0 ≤ Int32.toInt (q_67.1 2 26) ∧ Int32.toInt (q_67.1 2 26) ≤ 10 := i_69.1 2 26
          have f_78 : 0 ≤ Int32.toInt (q.1 2 26) ∧ Int32.toInt (q.1 2 26) ≤ 10 := hT.1 2 26
          refine dOk_B (ok_size q_67 i_69) (fun r_79 q_80 h_81 => ?_)
          replace h_81 : (q_80 = q_67) ∧ (Int32.toInt r_79 = Int32.toInt (q_67.1 2 29)) ∧ (0 ≤ Int32.toInt r_79 ∧ Int32.toInt r_79 ≤ 6) := h_81
          obtain ⟨i_82, i_83, i_84⟩ := h_81
          subst q_80
          try have t_85 : Int32.toInt (r_79 - 1) = Int32.toInt r_79 - 1 := ti_sub rfl (by decide) (by omega) (by omega)
          refine dOk_B (ok_settled q_67 (r_79 - 1) i_69) (fun r_86 q_87 h_88 => ?_)
          replace h_88 : (TS q_87) ∧ (dFr [] [0, 32] q_67 q_87) ∧ (Int32.toInt r_86 = Int32.toInt (r_79 - 1)) := h_88
          obtain ⟨i_89, i_90, i_91⟩ := h_88
          have hFq_87 : dFr [1, 2] [0, 32] q q_87 := hFq_67.t i_90 (by decide) (by decide)
          have f_92 : 0 ≤ Int32.toInt (q_87.1 2 30) ∧ Int32.toInt (q_87.1 2 30) ≤ 6 := i_89.1 2 30
          have w_93 : Int32.toInt (q_87.1 2 30) = Int32.toInt (q_67.1 2 30) := by rw [i_90.1 2 (by decide) (by decide)]
          have f_94 : 0 ≤ Int32.toInt (q_87.1 2 26) ∧ Int32.toInt (q_87.1 2 26) ≤ 10 := i_89.1 2 26
          have w_95 : Int32.toInt (q_87.1 2 26) = Int32.toInt (q_67.1 2 26) := by rw [i_90.1 2 (by decide) (by decide)]
          exact dOk_some (show (TS q_87) ∧ (dFr [1, 2] [0, 32] q q_87) ∧ (Int32.toInt (q_87.1 2 30) = Int32.toInt (q.1 2 30)) ∧ (Int32.toInt (q_87.1 2 26) = Int32.toInt (q.1 2 26)) from ⟨i_89, hFq_87, by omega, by omega⟩)
      · refine dOk_B (ok_refuses q (-3) hT (show (-6) ≤ (-3 : Int) by omega) (show (-3 : Int) ≤ 0 by omega)) (fun r_96 q_97 h_98 => ?_)
        replace h_98 : (TS q_97) ∧ (dFr [1] [0] q q_97) ∧ (Int32.toInt r_96 = (-3 : Int)) := h_98
        obtain ⟨i_99, i_100, i_101⟩ := h_98
        have hFq_97 : dFr [1, 2] [0, 32] q q_97 := (dFr.rf (q := q)).t i_100 (by decide) (by decide)
        have f_102 : 0 ≤ Int32.toInt (q_97.1 2 30) ∧ Int32.toInt (q_97.1 2 30) ≤ 6 := i_99.1 2 30
        have f_103 : 0 ≤ Int32.toInt (q.1 2 30) ∧ Int32.toInt (q.1 2 30) ≤ 6 := hT.1 2 30
        have w_104 : Int32.toInt (q_97.1 2 30) = Int32.toInt (q.1 2 30) := by rw [i_100.1 2 (by decide) (by decide)]
        have f_105 : 0 ≤ Int32.toInt (q_97.1 2 26) ∧ Int32.toInt (q_97.1 2 26) ≤ 10 := i_99.1 2 26
        have f_106 : 0 ≤ Int32.toInt (q.1 2 26) ∧ Int32.toInt (q.1 2 26) ≤ 10 := hT.1 2 26
        have w_107 : Int32.toInt (q_97.1 2 26) = Int32.toInt (q.1 2 26) := by rw [i_100.1 2 (by decide) (by decide)]
        exact dOk_some (show (TS q_97) ∧ (dFr [1, 2] [0, 32] q q_97) ∧ (Int32.toInt (q_97.1 2 30) = Int32.toInt (q.1 2 30)) ∧ (Int32.toInt (q_97.1 2 26) = Int32.toInt (q.1 2 26)) from ⟨i_99, hFq_97, by omega, by omega⟩)

set_option maxHeartbeats 4000000 in
set_option maxRecDepth 100000 in
theorem ok_setsAsked (q : dS) (p1 : Int32) (p2 : Int32) (p3 : Int32) (hT : TS q) : dOk (zX10_setsAsked q p1 p2 p3) (fun (o : dS) => (TS o) ∧ (dFr [12] [] q o) ∧ (Int32.toInt (o.1 12 0) = Int32.toInt (q.1 12 0)) ∧ (Int32.toInt (o.1 12 1) = Int32.toInt (q.1 12 1)) ∧ (Int32.toInt (o.1 12 2) = Int32.toInt (q.1 12 2))) := by
  unfold zX10_setsAsked
  refine dOk_B (ok_size q hT) (fun r_1 q_2 h_3 => ?_)
  replace h_3 : (q_2 = q) ∧ (Int32.toInt r_1 = Int32.toInt (q.1 2 29)) ∧ (0 ≤ Int32.toInt r_1 ∧ Int32.toInt r_1 ≤ 6) := h_3
  obtain ⟨i_4, i_5, i_6⟩ := h_3
  subst q_2
  have f_7 : 0 ≤ Int32.toInt (q.1 2 29) ∧ Int32.toInt (q.1 2 29) ≤ 6 := hT.1 2 29
  refine dOk_L (fun q_8 eq_8 => ?_)
  have hTq_8 : TS q_8 := by rw [eq_8]; exact ts_any hT rfl
  have hFq_8 : dFr [12] [] q q_8 := by rw [eq_8]; exact (dFr.rf (q := q)).i (by decide) (by decide)
  refine dOk_L (fun q_9 eq_9 => ?_)
  have hTq_9 : TS q_9 := by rw [eq_9]; exact ts_any hTq_8 rfl
  have hFq_9 : dFr [12] [] q q_9 := by rw [eq_9]; exact hFq_8.i (by decide) (by decide)
  refine dOk_L (fun q_10 eq_10 => ?_)
  have hTq_10 : TS q_10 := by rw [eq_10]; exact ts_any hTq_9 rfl
  have hFq_10 : dFr [12] [] q q_10 := by rw [eq_10]; exact hFq_9.i (by decide) (by decide)
  refine dOk_L (fun q_11 eq_11 => ?_)
  have f_12 : 0 ≤ Int32.toInt (q_10.1 2 27) ∧ Int32.toInt (q_10.1 2 27) ≤ 9 := hTq_10.1 2 27
  have f_13 : 0 ≤ Int32.toInt (q_9.1 2 27) ∧ Int32.toInt (q_9.1 2 27) ≤ 9 := hTq_9.1 2 27
  have f_14 : 0 ≤ Int32.toInt (q_8.1 2 27) ∧ Int32.toInt (q_8.1 2 27) ≤ 9 := hTq_8.1 2 27
  have f_15 : 0 ≤ Int32.toInt (q.1 2 27) ∧ Int32.toInt (q.1 2 27) ≤ 9 := hT.1 2 27
  have w_16 : Int32.toInt (q_8.1 2 27) = Int32.toInt (q.1 2 27) := by rw [eq_8, dui_o (by decide)]
  have w_17 : Int32.toInt (q_9.1 2 27) = Int32.toInt (q_8.1 2 27) := by rw [eq_9, dui_o (by decide)]
  have w_18 : Int32.toInt (q_10.1 2 27) = Int32.toInt (q_9.1 2 27) := by rw [eq_10, dui_o (by decide)]
  have hTq_11 : TS q_11 := by rw [eq_11]; exact ts_any hTq_10 rfl
  have hFq_11 : dFr [12] [] q q_11 := by rw [eq_11]; exact hFq_10.i (by decide) (by decide)
  refine dOk_L (fun q_19 eq_19 => ?_)
  have hTq_19 : TS q_19 := by rw [eq_19]; exact ts_any hTq_11 rfl
  have hFq_19 : dFr [12] [] q q_19 := by rw [eq_19]; exact hFq_11.i (by decide) (by decide)
  refine dOk_L (fun q_20 eq_20 => ?_)
  have f_21 : 0 ≤ Int32.toInt (q_19.1 2 13) ∧ Int32.toInt (q_19.1 2 13) ≤ 999 := hTq_19.1 2 13
  have f_22 : 0 ≤ Int32.toInt (q_11.1 2 13) ∧ Int32.toInt (q_11.1 2 13) ≤ 999 := hTq_11.1 2 13
  have f_23 : 0 ≤ Int32.toInt (q_10.1 2 13) ∧ Int32.toInt (q_10.1 2 13) ≤ 999 := hTq_10.1 2 13
  have f_24 : 0 ≤ Int32.toInt (q_9.1 2 13) ∧ Int32.toInt (q_9.1 2 13) ≤ 999 := hTq_9.1 2 13
  have f_25 : 0 ≤ Int32.toInt (q_8.1 2 13) ∧ Int32.toInt (q_8.1 2 13) ≤ 999 := hTq_8.1 2 13
  have f_26 : 0 ≤ Int32.toInt (q.1 2 13) ∧ Int32.toInt (q.1 2 13) ≤ 999 := hT.1 2 13
  have w_27 : Int32.toInt (q_8.1 2 13) = Int32.toInt (q.1 2 13) := by rw [eq_8, dui_o (by decide)]
  have w_28 : Int32.toInt (q_9.1 2 13) = Int32.toInt (q_8.1 2 13) := by rw [eq_9, dui_o (by decide)]
  have w_29 : Int32.toInt (q_10.1 2 13) = Int32.toInt (q_9.1 2 13) := by rw [eq_10, dui_o (by decide)]
  have w_30 : Int32.toInt (q_11.1 2 13) = Int32.toInt (q_10.1 2 13) := by rw [eq_11, dui_o (by decide)]
  have w_31 : Int32.toInt (q_19.1 2 13) = Int32.toInt (q_11.1 2 13) := by rw [eq_19, dui_o (by decide)]
  have hTq_20 : TS q_20 := by rw [eq_20]; exact ts_any hTq_19 rfl
  have hFq_20 : dFr [12] [] q q_20 := by rw [eq_20]; exact hFq_19.i (by decide) (by decide)
  have w_32 : Int32.toInt (q_8.1 12 0) = Int32.toInt (q.1 12 0) := by rw [eq_8, dui_n (by decide)]
  have w_33 : Int32.toInt (q_9.1 12 0) = Int32.toInt (q_8.1 12 0) := by rw [eq_9, dui_n (by decide)]
  have w_34 : Int32.toInt (q_10.1 12 0) = Int32.toInt (q_9.1 12 0) := by rw [eq_10, dui_n (by decide)]
  have w_35 : Int32.toInt (q_11.1 12 0) = Int32.toInt (q_10.1 12 0) := by rw [eq_11, dui_n (by decide)]
  have w_36 : Int32.toInt (q_19.1 12 0) = Int32.toInt (q_11.1 12 0) := by rw [eq_19, dui_n (by decide)]
  have w_37 : Int32.toInt (q_20.1 12 0) = Int32.toInt (q_19.1 12 0) := by rw [eq_20, dui_n (by decide)]
  have w_38 : Int32.toInt (q_8.1 12 1) = Int32.toInt (q.1 12 1) := by rw [eq_8, dui_n (by decide)]
  have w_39 : Int32.toInt (q_9.1 12 1) = Int32.toInt (q_8.1 12 1) := by rw [eq_9, dui_n (by decide)]
  have w_40 : Int32.toInt (q_10.1 12 1) = Int32.toInt (q_9.1 12 1) := by rw [eq_10, dui_n (by decide)]
  have w_41 : Int32.toInt (q_11.1 12 1) = Int32.toInt (q_10.1 12 1) := by rw [eq_11, dui_n (by decide)]
  have w_42 : Int32.toInt (q_19.1 12 1) = Int32.toInt (q_11.1 12 1) := by rw [eq_19, dui_n (by decide)]
  have w_43 : Int32.toInt (q_20.1 12 1) = Int32.toInt (q_19.1 12 1) := by rw [eq_20, dui_n (by decide)]
  have w_44 : Int32.toInt (q_8.1 12 2) = Int32.toInt (q.1 12 2) := by rw [eq_8, dui_n (by decide)]
  have w_45 : Int32.toInt (q_9.1 12 2) = Int32.toInt (q_8.1 12 2) := by rw [eq_9, dui_n (by decide)]
  have w_46 : Int32.toInt (q_10.1 12 2) = Int32.toInt (q_9.1 12 2) := by rw [eq_10, dui_n (by decide)]
  have w_47 : Int32.toInt (q_11.1 12 2) = Int32.toInt (q_10.1 12 2) := by rw [eq_11, dui_n (by decide)]
  have w_48 : Int32.toInt (q_19.1 12 2) = Int32.toInt (q_11.1 12 2) := by rw [eq_19, dui_n (by decide)]
  have w_49 : Int32.toInt (q_20.1 12 2) = Int32.toInt (q_19.1 12 2) := by rw [eq_20, dui_n (by decide)]
  exact dOk_some (show (TS q_20) ∧ (dFr [12] [] q q_20) ∧ (Int32.toInt (q_20.1 12 0) = Int32.toInt (q.1 12 0)) ∧ (Int32.toInt (q_20.1 12 1) = Int32.toInt (q.1 12 1)) ∧ (Int32.toInt (q_20.1 12 2) = Int32.toInt (q.1 12 2)) from ⟨hTq_20, hFq_20, by omega, by omega, by omega⟩)

set_option maxHeartbeats 4000000 in
set_option maxRecDepth 100000 in
theorem ok_setsFloor (q : dS) (p1 : Int32) (hT : TS q) (hp0 : 0 ≤ Int32.toInt p1) (hp1 : Int32.toInt p1 < 6) : dOk (zX10_setsFloor q p1) (fun (o : dS) => (TS o) ∧ (dFr [12] [] q o)) := by
  unfold zX10_setsFloor
  refine dOk_L (fun q_1 eq_1 => ?_)
  have hTq_1 : TS q_1 := by rw [eq_1]; exact ts_any hT rfl
  have hFq_1 : dFr [12] [] q q_1 := by rw [eq_1]; exact (dFr.rf (q := q)).i (by decide) (by decide)
  refine dOk_L (fun q_2 eq_2 => ?_)
  have hTq_2 : TS q_2 := by rw [eq_2]; exact ts_any hTq_1 rfl
  have hFq_2 : dFr [12] [] q q_2 := by rw [eq_2]; exact hFq_1.i (by decide) (by decide)
  refine dOk_L (fun q_3 eq_3 => ?_)
  have hTq_3 : TS q_3 := by rw [eq_3]; exact ts_any hTq_2 rfl
  have hFq_3 : dFr [12] [] q q_3 := by rw [eq_3]; exact hFq_2.i (by decide) (by decide)
  try have t_4 : Int32.toInt (0 + p1) = 0 + Int32.toInt p1 := ti_add (by decide) rfl (by omega) (by omega)
  refine dOk_G (dg_ok (show 0 ≤ Int32.toInt (0 + p1) by omega) (show Int32.toInt (0 + p1) < ((5640 : Nat) : Int) by omega)) ?_
  have n_5 : ((Int32.toNatClampNeg (0 + p1) : Nat) : Int) = Int32.toInt (0 + p1) := cl_eq (by omega)
  refine dOk_L (fun v_6 ev_6 => ?_)
  try have g_7 : klo (Int32.toNatClampNeg (0 + p1)) ≤ Int32.toInt v_6 ∧ Int32.toInt v_6 ≤ khi (Int32.toNatClampNeg (0 + p1)) := by rw [ev_6]; exact te_k hTq_3 _
  try have f_8 : 0 ≤ Int32.toInt v_6 ∧ Int32.toInt v_6 ≤ 5 := by rw [ev_6]; exact te_2r hTq_3 (by omega) (by omega)
  try have f_9 : 0 ≤ Int32.toInt v_6 ∧ Int32.toInt v_6 ≤ 1 := by rw [ev_6]; exact te_2h hTq_3 (by omega) (by omega)
  try have f_10 : 0 ≤ Int32.toInt v_6 ∧ Int32.toInt v_6 ≤ 5 := by rw [ev_6]; exact te_2s hTq_3 (by omega) (by omega)
  try have f_11 : 0 ≤ Int32.toInt v_6 ∧ Int32.toInt v_6 ≤ 400 := by rw [ev_6]; exact te_2z hTq_3 (by omega) (by omega)
  try have t_12 : Int32.toInt (6 + p1) = 6 + Int32.toInt p1 := ti_add (by decide) rfl (by omega) (by omega)
  refine dOk_G (dg_ok (show 0 ≤ Int32.toInt (6 + p1) by omega) (show Int32.toInt (6 + p1) < ((5640 : Nat) : Int) by omega)) ?_
  have n_13 : ((Int32.toNatClampNeg (6 + p1) : Nat) : Int) = Int32.toInt (6 + p1) := cl_eq (by omega)
  refine dOk_L (fun v_14 ev_14 => ?_)
  try have g_15 : klo (Int32.toNatClampNeg (6 + p1)) ≤ Int32.toInt v_14 ∧ Int32.toInt v_14 ≤ khi (Int32.toNatClampNeg (6 + p1)) := by rw [ev_14]; exact te_k hTq_3 _
  try have f_16 : 0 ≤ Int32.toInt v_14 ∧ Int32.toInt v_14 ≤ 5 := by rw [ev_14]; exact te_2r hTq_3 (by omega) (by omega)
  try have f_17 : 0 ≤ Int32.toInt v_14 ∧ Int32.toInt v_14 ≤ 1 := by rw [ev_14]; exact te_2h hTq_3 (by omega) (by omega)
  try have f_18 : 0 ≤ Int32.toInt v_14 ∧ Int32.toInt v_14 ≤ 5 := by rw [ev_14]; exact te_2s hTq_3 (by omega) (by omega)
  try have f_19 : 0 ≤ Int32.toInt v_14 ∧ Int32.toInt v_14 ≤ 400 := by rw [ev_14]; exact te_2z hTq_3 (by omega) (by omega)
  refine dOk_V (ok_setsAsked q_3 v_6 p1 v_14 hTq_3) (fun q_20 h_21 => ?_)
  replace h_21 : (TS q_20) ∧ (dFr [12] [] q_3 q_20) ∧ (Int32.toInt (q_20.1 12 0) = Int32.toInt (q_3.1 12 0)) ∧ (Int32.toInt (q_20.1 12 1) = Int32.toInt (q_3.1 12 1)) ∧ (Int32.toInt (q_20.1 12 2) = Int32.toInt (q_3.1 12 2)) := h_21
  obtain ⟨i_22, i_23, i_24, i_25, i_26⟩ := h_21
  have hFq_20 : dFr [12] [] q q_20 := hFq_3.t i_23 (by decide) (by decide)
  have w_27 : Int32.toInt (q_1.1 12 0) = (-1 : Int) := by rw [eq_1, dui_e]; decide
  have w_28 : Int32.toInt (q_2.1 12 0) = Int32.toInt (q_1.1 12 0) := by rw [eq_2, dui_n (by decide)]
  have w_29 : Int32.toInt (q_3.1 12 0) = Int32.toInt (q_2.1 12 0) := by rw [eq_3, dui_n (by decide)]
  have w_30 : Int32.toInt (q_2.1 12 1) = (-1 : Int) := by rw [eq_2, dui_e]; decide
  have w_31 : Int32.toInt (q_3.1 12 1) = Int32.toInt (q_2.1 12 1) := by rw [eq_3, dui_n (by decide)]
  have w_32 : Int32.toInt (q_3.1 12 2) = (-1 : Int) := by rw [eq_3, dui_e]; decide
  exact dOk_some (show (TS q_20) ∧ (dFr [12] [] q q_20) from ⟨i_22, hFq_20⟩)

set_option maxHeartbeats 4000000 in
set_option maxRecDepth 100000 in
theorem ok_sign (p1 : Int32) (hp0 : 0 ≤ Int32.toInt p1 ∧ Int32.toInt p1 ≤ 255) : dOk (zX10_sign p1) (fun (o : Int32) => (Int32.toInt o = Int32.toInt p1 + 100)) := by
  unfold zX10_sign
  try have t_1 : Int32.toInt (100 + p1) = 100 + Int32.toInt p1 := ti_add (by decide) rfl (by omega) (by omega)
  exact dOk_some (show (Int32.toInt (100 + p1) = Int32.toInt p1 + 100) from (by omega))

set_option maxHeartbeats 4000000 in
set_option maxRecDepth 100000 in
theorem ok_lessThan (q : dS) (p1 : Int32) (hT : TS q) : dOk (zX10_lessThan q p1) (fun (o : Int32 × dS) => (o.2 = q) ∧ (0 ≤ Int32.toInt o.1 ∧ Int32.toInt o.1 ≤ 6)) := by
  unfold zX10_lessThan
  unfold zX10_lessThan_4
  refine dFix_ok (fun (a : dS × Int32 × Int32 × Int32) => (a.1 = q) ∧ (a.2.1 = p1) ∧ (0 ≤ Int32.toInt a.2.2.2) ∧ (Int32.toInt a.2.2.2 ≤ 6) ∧ (0 ≤ Int32.toInt a.2.2.1) ∧ (Int32.toInt a.2.2.1 ≤ Int32.toInt a.2.2.2)) (fun (a : dS × Int32 × Int32 × Int32) => (6 - Int32.toInt a.2.2.2).toNat) ?_ _ ?_ _ (dF_gt ?_)
  · intro a ha k_2 hk_1
    obtain ⟨q_3, x1_4, x2_5, x3_6⟩ := a
    replace ha : (q_3 = q) ∧ (x1_4 = p1) ∧ (0 ≤ Int32.toInt x3_6) ∧ (Int32.toInt x3_6 ≤ 6) ∧ (0 ≤ Int32.toInt x2_5) ∧ (Int32.toInt x2_5 ≤ Int32.toInt x3_6) := ha
    obtain ⟨a_7, a_8, a_9, a_10, a_11, a_12⟩ := ha
    show dOk (zX10_lessThan_4b  (fun q x1 x2 x3 => k_2 (q, x1, x2, x3)) q_3 x1_4 x2_5 x3_6) _
    unfold zX10_lessThan_4b
    subst q_3
    subst x1_4
    refine dOk_B (ok_size q hT) (fun r_13 q_14 h_15 => ?_)
    replace h_15 : (q_14 = q) ∧ (Int32.toInt r_13 = Int32.toInt (q.1 2 29)) ∧ (0 ≤ Int32.toInt r_13 ∧ Int32.toInt r_13 ≤ 6) := h_15
    obtain ⟨i_16, i_17, i_18⟩ := h_15
    subst q_14
    have f_19 : 0 ≤ Int32.toInt (q.1 2 29) ∧ Int32.toInt (q.1 2 29) ≤ 6 := hT.1 2 29
    refine dOk_le (A := Int32.toInt r_13) (B := Int32.toInt x3_6) rfl rfl (fun c_20 => ?_) (fun c_21 => ?_)
    · exact dOk_some (show (q = q) ∧ (0 ≤ Int32.toInt x2_5 ∧ Int32.toInt x2_5 ≤ 6) from ⟨rfl, by omega⟩)
    · try have t_22 : Int32.toInt (0 + x3_6) = 0 + Int32.toInt x3_6 := ti_add (by decide) rfl (by omega) (by omega)
      refine dOk_G (dg_ok (show 0 ≤ Int32.toInt (0 + x3_6) by omega) (show Int32.toInt (0 + x3_6) < ((5640 : Nat) : Int) by omega)) ?_
      have n_23 : ((Int32.toNatClampNeg (0 + x3_6) : Nat) : Int) = Int32.toInt (0 + x3_6) := cl_eq (by omega)
      refine dOk_L (fun v_24 ev_24 => ?_)
      try have g_25 : klo (Int32.toNatClampNeg (0 + x3_6)) ≤ Int32.toInt v_24 ∧ Int32.toInt v_24 ≤ khi (Int32.toNatClampNeg (0 + x3_6)) := by rw [ev_24]; exact te_k hT _
      try have f_26 : 0 ≤ Int32.toInt v_24 ∧ Int32.toInt v_24 ≤ 5 := by rw [ev_24]; exact te_2r hT (by omega) (by omega)
      try have f_27 : 0 ≤ Int32.toInt v_24 ∧ Int32.toInt v_24 ≤ 1 := by rw [ev_24]; exact te_2h hT (by omega) (by omega)
      try have f_28 : 0 ≤ Int32.toInt v_24 ∧ Int32.toInt v_24 ≤ 5 := by rw [ev_24]; exact te_2s hT (by omega) (by omega)
      try have f_29 : 0 ≤ Int32.toInt v_24 ∧ Int32.toInt v_24 ≤ 400 := by rw [ev_24]; exact te_2z hT (by omega) (by omega)
      refine dOk_le (A := Int32.toInt p1) (B := Int32.toInt v_24) rfl rfl (fun c_30 => ?_) (fun c_31 => ?_)
      · unfold zX10_lessThan_30
        try have t_32 : Int32.toInt (x2_5 + 0) = Int32.toInt x2_5 + 0 := ti_add rfl (by decide) (by omega) (by omega)
        try have t_33 : Int32.toInt (x3_6 + 1) = Int32.toInt x3_6 + 1 := ti_add rfl (by decide) (by omega) (by omega)
        exact hk_1 (q, p1, (x2_5 + 0), (x3_6 + 1)) (show (q = q) ∧ (p1 = p1) ∧ (0 ≤ Int32.toInt (x3_6 + 1)) ∧ (Int32.toInt (x3_6 + 1) ≤ 6) ∧ (0 ≤ Int32.toInt (x2_5 + 0)) ∧ (Int32.toInt (x2_5 + 0) ≤ Int32.toInt (x3_6 + 1)) from ⟨rfl, rfl, by omega, by omega, by omega, by omega⟩) (show (6 - Int32.toInt (x3_6 + 1)).toNat < (6 - Int32.toInt x3_6).toNat by omega)
      · unfold zX10_lessThan_30
        try have t_34 : Int32.toInt (x2_5 + 1) = Int32.toInt x2_5 + 1 := ti_add rfl (by decide) (by omega) (by omega)
        try have t_35 : Int32.toInt (x3_6 + 1) = Int32.toInt x3_6 + 1 := ti_add rfl (by decide) (by omega) (by omega)
        exact hk_1 (q, p1, (x2_5 + 1), (x3_6 + 1)) (show (q = q) ∧ (p1 = p1) ∧ (0 ≤ Int32.toInt (x3_6 + 1)) ∧ (Int32.toInt (x3_6 + 1) ≤ 6) ∧ (0 ≤ Int32.toInt (x2_5 + 1)) ∧ (Int32.toInt (x2_5 + 1) ≤ Int32.toInt (x3_6 + 1)) from ⟨rfl, rfl, by omega, by omega, by omega, by omega⟩) (show (6 - Int32.toInt (x3_6 + 1)).toNat < (6 - Int32.toInt x3_6).toNat by omega)
  · exact (show (q = q) ∧ (p1 = p1) ∧ (0 ≤ (0 : Int)) ∧ ((0 : Int) ≤ 6) ∧ (0 ≤ (0 : Int)) ∧ ((0 : Int) ≤ (0 : Int)) from ⟨rfl, rfl, by omega, by omega, by omega, by omega⟩)
  · show (6 - (0 : Int)).toNat < 1000000000000
    omega
end
section
set_option maxHeartbeats 4000000 in
set_option maxRecDepth 100000 in
theorem ok_gaps (q : dS) (hT : TS q) : dOk (zX10_gaps q) (fun (o : Int32 × dS) => (o.2 = q)) := by
  unfold zX10_gaps
  refine dOk_B (ok_size q hT) (fun r_1 q_2 h_3 => ?_)
  replace h_3 : (q_2 = q) ∧ (Int32.toInt r_1 = Int32.toInt (q.1 2 29)) ∧ (0 ≤ Int32.toInt r_1 ∧ Int32.toInt r_1 ≤ 6) := h_3
  obtain ⟨i_4, i_5, i_6⟩ := h_3
  subst q_2
  have f_7 : 0 ≤ Int32.toInt (q.1 2 29) ∧ Int32.toInt (q.1 2 29) ≤ 6 := hT.1 2 29
  refine dOk_le (A := Int32.toInt r_1) (B := 0) rfl (by decide) (fun c_8 => ?_) (fun c_9 => ?_)
  · unfold zX10_gaps_37
    unfold zX10_gaps_38
    unfold zX10_gaps_41
    refine dFix_ok (fun (a : dS × Int32 × Int32) => (a.1 = q) ∧ (0 ≤ Int32.toInt a.2.2) ∧ (Int32.toInt a.2.2 ≤ 6)) (fun (a : dS × Int32 × Int32) => (6 - Int32.toInt a.2.2).toNat) ?_ _ ?_ _ (dF_gt ?_)
    · intro a ha k_11 hk_10
      obtain ⟨q_12, x1_13, x2_14⟩ := a
      replace ha : (q_12 = q) ∧ (0 ≤ Int32.toInt x2_14) ∧ (Int32.toInt x2_14 ≤ 6) := ha
      obtain ⟨a_15, a_16, a_17⟩ := ha
      show dOk (zX10_gaps_41b  (fun q x1 x2 => k_11 (q, x1, x2)) q_12 x1_13 x2_14) _
      unfold zX10_gaps_41b
      subst q_12
      refine dOk_B (ok_size q hT) (fun r_18 q_19 h_20 => ?_)
      replace h_20 : (q_19 = q) ∧ (Int32.toInt r_18 = Int32.toInt (q.1 2 29)) ∧ (0 ≤ Int32.toInt r_18 ∧ Int32.toInt r_18 ≤ 6) := h_20
      obtain ⟨i_21, i_22, i_23⟩ := h_20
      subst q_19
      try have t_24 : Int32.toInt (x2_14 + 1) = Int32.toInt x2_14 + 1 := ti_add rfl (by decide) (by omega) (by omega)
      refine dOk_le (A := Int32.toInt r_18) (B := Int32.toInt (x2_14 + 1)) rfl rfl (fun c_25 => ?_) (fun c_26 => ?_)
      · exact dOk_some (show (q = q) from rfl)
      · try have t_27 : Int32.toInt (0 + x2_14) = 0 + Int32.toInt x2_14 := ti_add (by decide) rfl (by omega) (by omega)
        refine dOk_G (dg_ok (show 0 ≤ Int32.toInt (0 + x2_14) by omega) (show Int32.toInt (0 + x2_14) < ((5640 : Nat) : Int) by omega)) ?_
        have n_28 : ((Int32.toNatClampNeg (0 + x2_14) : Nat) : Int) = Int32.toInt (0 + x2_14) := cl_eq (by omega)
        refine dOk_L (fun v_29 ev_29 => ?_)
        try have g_30 : klo (Int32.toNatClampNeg (0 + x2_14)) ≤ Int32.toInt v_29 ∧ Int32.toInt v_29 ≤ khi (Int32.toNatClampNeg (0 + x2_14)) := by rw [ev_29]; exact te_k hT _
        try have f_31 : 0 ≤ Int32.toInt v_29 ∧ Int32.toInt v_29 ≤ 5 := by rw [ev_29]; exact te_2r hT (by omega) (by omega)
        try have f_32 : 0 ≤ Int32.toInt v_29 ∧ Int32.toInt v_29 ≤ 1 := by rw [ev_29]; exact te_2h hT (by omega) (by omega)
        try have f_33 : 0 ≤ Int32.toInt v_29 ∧ Int32.toInt v_29 ≤ 5 := by rw [ev_29]; exact te_2s hT (by omega) (by omega)
        try have f_34 : 0 ≤ Int32.toInt v_29 ∧ Int32.toInt v_29 ≤ 400 := by rw [ev_29]; exact te_2z hT (by omega) (by omega)
        refine dOk_B (ok_lessThan q v_29 hT) (fun r_35 q_36 h_37 => ?_)
        replace h_37 : (q_36 = q) ∧ (0 ≤ Int32.toInt r_35 ∧ Int32.toInt r_35 ≤ 6) := h_37
        obtain ⟨i_38, i_39⟩ := h_37
        subst q_36
        try have t_40 : Int32.toInt (0 + x2_14 + 1) = Int32.toInt (0 + x2_14) + 1 := ti_add rfl (by decide) (by omega) (by omega)
        refine dOk_G (dg_ok (show 0 ≤ Int32.toInt (0 + x2_14 + 1) by omega) (show Int32.toInt (0 + x2_14 + 1) < ((5640 : Nat) : Int) by omega)) ?_
        have n_41 : ((Int32.toNatClampNeg (0 + x2_14 + 1) : Nat) : Int) = Int32.toInt (0 + x2_14 + 1) := cl_eq (by omega)
        refine dOk_L (fun v_42 ev_42 => ?_)
        try have g_43 : klo (Int32.toNatClampNeg (0 + x2_14 + 1)) ≤ Int32.toInt v_42 ∧ Int32.toInt v_42 ≤ khi (Int32.toNatClampNeg (0 + x2_14 + 1)) := by rw [ev_42]; exact te_k hT _
        try have f_44 : 0 ≤ Int32.toInt v_42 ∧ Int32.toInt v_42 ≤ 5 := by rw [ev_42]; exact te_2r hT (by omega) (by omega)
        try have f_45 : 0 ≤ Int32.toInt v_42 ∧ Int32.toInt v_42 ≤ 1 := by rw [ev_42]; exact te_2h hT (by omega) (by omega)
        try have f_46 : 0 ≤ Int32.toInt v_42 ∧ Int32.toInt v_42 ≤ 5 := by rw [ev_42]; exact te_2s hT (by omega) (by omega)
        try have f_47 : 0 ≤ Int32.toInt v_42 ∧ Int32.toInt v_42 ≤ 400 := by rw [ev_42]; exact te_2z hT (by omega) (by omega)
        refine dOk_B (ok_lessThan q v_42 hT) (fun r_48 q_49 h_50 => ?_)
        replace h_50 : (q_49 = q) ∧ (0 ≤ Int32.toInt r_48 ∧ Int32.toInt r_48 ≤ 6) := h_50
        obtain ⟨i_51, i_52⟩ := h_50
        subst q_49
        try have t_53 : Int32.toInt (r_35 - r_48) = Int32.toInt r_35 - Int32.toInt r_48 := ti_sub rfl rfl (by omega) (by omega)
        refine dOk_eq (A := Int32.toInt (r_35 - r_48)) (B := 1) rfl (by decide) (fun c_54z c_54 => ?_) (fun c_55z c_55 => ?_)
        · unfold zX10_gaps_90
          unfold zX10_gaps_95
          try have t_57 : Int32.toInt (x1_13 + 0) = Int32.toInt x1_13 + 0 := ti_add rfl (by decide) (by omega) (by omega)
          exact hk_10 (q, (x1_13 + 0), (x2_14 + 1)) (show (q = q) ∧ (0 ≤ Int32.toInt (x2_14 + 1)) ∧ (Int32.toInt (x2_14 + 1) ≤ 6) from ⟨rfl, by omega, by omega⟩) (show (6 - Int32.toInt (x2_14 + 1)).toNat < (6 - Int32.toInt x2_14).toNat by omega)
        · refine dOk_eq (A := Int32.toInt (r_35 - r_48)) (B := (-1)) rfl (by decide) (fun c_58z c_58 => ?_) (fun c_59z c_59 => ?_)
          · unfold zX10_gaps_90
            unfold zX10_gaps_95
            try have t_61 : Int32.toInt (x1_13 + 0) = Int32.toInt x1_13 + 0 := ti_add rfl (by decide) (by omega) (by omega)
            exact hk_10 (q, (x1_13 + 0), (x2_14 + 1)) (show (q = q) ∧ (0 ≤ Int32.toInt (x2_14 + 1)) ∧ (Int32.toInt (x2_14 + 1) ≤ 6) from ⟨rfl, by omega, by omega⟩) (show (6 - Int32.toInt (x2_14 + 1)).toNat < (6 - Int32.toInt x2_14).toNat by omega)
          · unfold zX10_gaps_95
            try have t_62 : Int32.toInt (x1_13 + 1) = Int32.toInt x1_13 + 1 := ti_add rfl (by decide) (by omega) (by omega)
            exact hk_10 (q, (x1_13 + 1), (x2_14 + 1)) (show (q = q) ∧ (0 ≤ Int32.toInt (x2_14 + 1)) ∧ (Int32.toInt (x2_14 + 1) ≤ 6) from ⟨rfl, by omega, by omega⟩) (show (6 - Int32.toInt (x2_14 + 1)).toNat < (6 - Int32.toInt x2_14).toNat by omega)
    · exact (show (q = q) ∧ (0 ≤ (0 : Int)) ∧ ((0 : Int) ≤ 6) from ⟨rfl, by omega, by omega⟩)
    · show (6 - (0 : Int)).toNat < 1000000000000
      omega
  · refine dOk_B (ok_size q hT) (fun r_63 q_64 h_65 => ?_)
    replace h_65 : (q_64 = q) ∧ (Int32.toInt r_63 = Int32.toInt (q.1 2 29)) ∧ (0 ≤ Int32.toInt r_63 ∧ Int32.toInt r_63 ≤ 6) := h_65
    obtain ⟨i_66, i_67, i_68⟩ := h_65
    subst q_64
    try have t_69 : Int32.toInt (0 + r_63) = 0 + Int32.toInt r_63 := ti_add (by decide) rfl (by omega) (by omega)
    try have t_70 : Int32.toInt (0 + r_63 - 1) = Int32.toInt (0 + r_63) - 1 := ti_sub rfl (by decide) (by omega) (by omega)
    refine dOk_G (dg_ok (show 0 ≤ Int32.toInt (0 + r_63 - 1) by omega) (show Int32.toInt (0 + r_63 - 1) < ((5640 : Nat) : Int) by omega)) ?_
    have n_71 : ((Int32.toNatClampNeg (0 + r_63 - 1) : Nat) : Int) = Int32.toInt (0 + r_63 - 1) := cl_eq (by omega)
    refine dOk_L (fun v_72 ev_72 => ?_)
    try have g_73 : klo (Int32.toNatClampNeg (0 + r_63 - 1)) ≤ Int32.toInt v_72 ∧ Int32.toInt v_72 ≤ khi (Int32.toNatClampNeg (0 + r_63 - 1)) := by rw [ev_72]; exact te_k hT _
    try have f_74 : 0 ≤ Int32.toInt v_72 ∧ Int32.toInt v_72 ≤ 5 := by rw [ev_72]; exact te_2r hT (by omega) (by omega)
    try have f_75 : 0 ≤ Int32.toInt v_72 ∧ Int32.toInt v_72 ≤ 1 := by rw [ev_72]; exact te_2h hT (by omega) (by omega)
    try have f_76 : 0 ≤ Int32.toInt v_72 ∧ Int32.toInt v_72 ≤ 5 := by rw [ev_72]; exact te_2s hT (by omega) (by omega)
    try have f_77 : 0 ≤ Int32.toInt v_72 ∧ Int32.toInt v_72 ≤ 400 := by rw [ev_72]; exact te_2z hT (by omega) (by omega)
    refine dOk_B (ok_lessThan q v_72 hT) (fun r_78 q_79 h_80 => ?_)
    replace h_80 : (q_79 = q) ∧ (0 ≤ Int32.toInt r_78 ∧ Int32.toInt r_78 ≤ 6) := h_80
    obtain ⟨i_81, i_82⟩ := h_80
    subst q_79
    refine dOk_B (ok_size q hT) (fun r_83 q_84 h_85 => ?_)
    replace h_85 : (q_84 = q) ∧ (Int32.toInt r_83 = Int32.toInt (q.1 2 29)) ∧ (0 ≤ Int32.toInt r_83 ∧ Int32.toInt r_83 ≤ 6) := h_85
    obtain ⟨i_86, i_87, i_88⟩ := h_85
    subst q_84
    try have t_89 : Int32.toInt (r_83 - 1) = Int32.toInt r_83 - 1 := ti_sub rfl (by decide) (by omega) (by omega)
    refine dOk_le (A := Int32.toInt (r_83 - 1)) (B := Int32.toInt r_78) rfl rfl (fun c_90 => ?_) (fun c_91 => ?_)
    · unfold zX10_gaps_37
      unfold zX10_gaps_38
      unfold zX10_gaps_41
      refine dFix_ok (fun (a : dS × Int32 × Int32) => (a.1 = q) ∧ (0 ≤ Int32.toInt a.2.2) ∧ (Int32.toInt a.2.2 ≤ 6)) (fun (a : dS × Int32 × Int32) => (6 - Int32.toInt a.2.2).toNat) ?_ _ ?_ _ (dF_gt ?_)
      · intro a ha k_93 hk_92
        obtain ⟨q_94, x1_95, x2_96⟩ := a
        replace ha : (q_94 = q) ∧ (0 ≤ Int32.toInt x2_96) ∧ (Int32.toInt x2_96 ≤ 6) := ha
        obtain ⟨a_97, a_98, a_99⟩ := ha
        show dOk (zX10_gaps_41b  (fun q x1 x2 => k_93 (q, x1, x2)) q_94 x1_95 x2_96) _
        unfold zX10_gaps_41b
        subst q_94
        refine dOk_B (ok_size q hT) (fun r_100 q_101 h_102 => ?_)
        replace h_102 : (q_101 = q) ∧ (Int32.toInt r_100 = Int32.toInt (q.1 2 29)) ∧ (0 ≤ Int32.toInt r_100 ∧ Int32.toInt r_100 ≤ 6) := h_102
        obtain ⟨i_103, i_104, i_105⟩ := h_102
        subst q_101
        try have t_106 : Int32.toInt (x2_96 + 1) = Int32.toInt x2_96 + 1 := ti_add rfl (by decide) (by omega) (by omega)
        refine dOk_le (A := Int32.toInt r_100) (B := Int32.toInt (x2_96 + 1)) rfl rfl (fun c_107 => ?_) (fun c_108 => ?_)
        · exact dOk_some (show (q = q) from rfl)
        · try have t_109 : Int32.toInt (0 + x2_96) = 0 + Int32.toInt x2_96 := ti_add (by decide) rfl (by omega) (by omega)
          refine dOk_G (dg_ok (show 0 ≤ Int32.toInt (0 + x2_96) by omega) (show Int32.toInt (0 + x2_96) < ((5640 : Nat) : Int) by omega)) ?_
          have n_110 : ((Int32.toNatClampNeg (0 + x2_96) : Nat) : Int) = Int32.toInt (0 + x2_96) := cl_eq (by omega)
          refine dOk_L (fun v_111 ev_111 => ?_)
          try have g_112 : klo (Int32.toNatClampNeg (0 + x2_96)) ≤ Int32.toInt v_111 ∧ Int32.toInt v_111 ≤ khi (Int32.toNatClampNeg (0 + x2_96)) := by rw [ev_111]; exact te_k hT _
          try have f_113 : 0 ≤ Int32.toInt v_111 ∧ Int32.toInt v_111 ≤ 5 := by rw [ev_111]; exact te_2r hT (by omega) (by omega)
          try have f_114 : 0 ≤ Int32.toInt v_111 ∧ Int32.toInt v_111 ≤ 1 := by rw [ev_111]; exact te_2h hT (by omega) (by omega)
          try have f_115 : 0 ≤ Int32.toInt v_111 ∧ Int32.toInt v_111 ≤ 5 := by rw [ev_111]; exact te_2s hT (by omega) (by omega)
          try have f_116 : 0 ≤ Int32.toInt v_111 ∧ Int32.toInt v_111 ≤ 400 := by rw [ev_111]; exact te_2z hT (by omega) (by omega)
          refine dOk_B (ok_lessThan q v_111 hT) (fun r_117 q_118 h_119 => ?_)
          replace h_119 : (q_118 = q) ∧ (0 ≤ Int32.toInt r_117 ∧ Int32.toInt r_117 ≤ 6) := h_119
          obtain ⟨i_120, i_121⟩ := h_119
          subst q_118
          try have t_122 : Int32.toInt (0 + x2_96 + 1) = Int32.toInt (0 + x2_96) + 1 := ti_add rfl (by decide) (by omega) (by omega)
          refine dOk_G (dg_ok (show 0 ≤ Int32.toInt (0 + x2_96 + 1) by omega) (show Int32.toInt (0 + x2_96 + 1) < ((5640 : Nat) : Int) by omega)) ?_
          have n_123 : ((Int32.toNatClampNeg (0 + x2_96 + 1) : Nat) : Int) = Int32.toInt (0 + x2_96 + 1) := cl_eq (by omega)
          refine dOk_L (fun v_124 ev_124 => ?_)
          try have g_125 : klo (Int32.toNatClampNeg (0 + x2_96 + 1)) ≤ Int32.toInt v_124 ∧ Int32.toInt v_124 ≤ khi (Int32.toNatClampNeg (0 + x2_96 + 1)) := by rw [ev_124]; exact te_k hT _
          try have f_126 : 0 ≤ Int32.toInt v_124 ∧ Int32.toInt v_124 ≤ 5 := by rw [ev_124]; exact te_2r hT (by omega) (by omega)
          try have f_127 : 0 ≤ Int32.toInt v_124 ∧ Int32.toInt v_124 ≤ 1 := by rw [ev_124]; exact te_2h hT (by omega) (by omega)
          try have f_128 : 0 ≤ Int32.toInt v_124 ∧ Int32.toInt v_124 ≤ 5 := by rw [ev_124]; exact te_2s hT (by omega) (by omega)
          try have f_129 : 0 ≤ Int32.toInt v_124 ∧ Int32.toInt v_124 ≤ 400 := by rw [ev_124]; exact te_2z hT (by omega) (by omega)
          refine dOk_B (ok_lessThan q v_124 hT) (fun r_130 q_131 h_132 => ?_)
          replace h_132 : (q_131 = q) ∧ (0 ≤ Int32.toInt r_130 ∧ Int32.toInt r_130 ≤ 6) := h_132
          obtain ⟨i_133, i_134⟩ := h_132
          subst q_131
          try have t_135 : Int32.toInt (r_117 - r_130) = Int32.toInt r_117 - Int32.toInt r_130 := ti_sub rfl rfl (by omega) (by omega)
          refine dOk_eq (A := Int32.toInt (r_117 - r_130)) (B := 1) rfl (by decide) (fun c_136z c_136 => ?_) (fun c_137z c_137 => ?_)
          · unfold zX10_gaps_90
            unfold zX10_gaps_95
            try have t_139 : Int32.toInt (x1_95 + 0) = Int32.toInt x1_95 + 0 := ti_add rfl (by decide) (by omega) (by omega)
            exact hk_92 (q, (x1_95 + 0), (x2_96 + 1)) (show (q = q) ∧ (0 ≤ Int32.toInt (x2_96 + 1)) ∧ (Int32.toInt (x2_96 + 1) ≤ 6) from ⟨rfl, by omega, by omega⟩) (show (6 - Int32.toInt (x2_96 + 1)).toNat < (6 - Int32.toInt x2_96).toNat by omega)
          · refine dOk_eq (A := Int32.toInt (r_117 - r_130)) (B := (-1)) rfl (by decide) (fun c_140z c_140 => ?_) (fun c_141z c_141 => ?_)
            · unfold zX10_gaps_90
              unfold zX10_gaps_95
              try have t_143 : Int32.toInt (x1_95 + 0) = Int32.toInt x1_95 + 0 := ti_add rfl (by decide) (by omega) (by omega)
              exact hk_92 (q, (x1_95 + 0), (x2_96 + 1)) (show (q = q) ∧ (0 ≤ Int32.toInt (x2_96 + 1)) ∧ (Int32.toInt (x2_96 + 1) ≤ 6) from ⟨rfl, by omega, by omega⟩) (show (6 - Int32.toInt (x2_96 + 1)).toNat < (6 - Int32.toInt x2_96).toNat by omega)
            · unfold zX10_gaps_95
              try have t_144 : Int32.toInt (x1_95 + 1) = Int32.toInt x1_95 + 1 := ti_add rfl (by decide) (by omega) (by omega)
              exact hk_92 (q, (x1_95 + 1), (x2_96 + 1)) (show (q = q) ∧ (0 ≤ Int32.toInt (x2_96 + 1)) ∧ (Int32.toInt (x2_96 + 1) ≤ 6) from ⟨rfl, by omega, by omega⟩) (show (6 - Int32.toInt (x2_96 + 1)).toNat < (6 - Int32.toInt x2_96).toNat by omega)
      · exact (show (q = q) ∧ (0 ≤ (0 : Int)) ∧ ((0 : Int) ≤ 6) from ⟨rfl, by omega, by omega⟩)
      · show (6 - (0 : Int)).toNat < 1000000000000
        omega
    · unfold zX10_gaps_38
      unfold zX10_gaps_41
      refine dFix_ok (fun (a : dS × Int32 × Int32) => (a.1 = q) ∧ (0 ≤ Int32.toInt a.2.2) ∧ (Int32.toInt a.2.2 ≤ 6)) (fun (a : dS × Int32 × Int32) => (6 - Int32.toInt a.2.2).toNat) ?_ _ ?_ _ (dF_gt ?_)
      · intro a ha k_146 hk_145
        obtain ⟨q_147, x1_148, x2_149⟩ := a
        replace ha : (q_147 = q) ∧ (0 ≤ Int32.toInt x2_149) ∧ (Int32.toInt x2_149 ≤ 6) := ha
        obtain ⟨a_150, a_151, a_152⟩ := ha
        show dOk (zX10_gaps_41b  (fun q x1 x2 => k_146 (q, x1, x2)) q_147 x1_148 x2_149) _
        unfold zX10_gaps_41b
        subst q_147
        refine dOk_B (ok_size q hT) (fun r_153 q_154 h_155 => ?_)
        replace h_155 : (q_154 = q) ∧ (Int32.toInt r_153 = Int32.toInt (q.1 2 29)) ∧ (0 ≤ Int32.toInt r_153 ∧ Int32.toInt r_153 ≤ 6) := h_155
        obtain ⟨i_156, i_157, i_158⟩ := h_155
        subst q_154
        try have t_159 : Int32.toInt (x2_149 + 1) = Int32.toInt x2_149 + 1 := ti_add rfl (by decide) (by omega) (by omega)
        refine dOk_le (A := Int32.toInt r_153) (B := Int32.toInt (x2_149 + 1)) rfl rfl (fun c_160 => ?_) (fun c_161 => ?_)
        · exact dOk_some (show (q = q) from rfl)
        · try have t_162 : Int32.toInt (0 + x2_149) = 0 + Int32.toInt x2_149 := ti_add (by decide) rfl (by omega) (by omega)
          refine dOk_G (dg_ok (show 0 ≤ Int32.toInt (0 + x2_149) by omega) (show Int32.toInt (0 + x2_149) < ((5640 : Nat) : Int) by omega)) ?_
          have n_163 : ((Int32.toNatClampNeg (0 + x2_149) : Nat) : Int) = Int32.toInt (0 + x2_149) := cl_eq (by omega)
          refine dOk_L (fun v_164 ev_164 => ?_)
          try have g_165 : klo (Int32.toNatClampNeg (0 + x2_149)) ≤ Int32.toInt v_164 ∧ Int32.toInt v_164 ≤ khi (Int32.toNatClampNeg (0 + x2_149)) := by rw [ev_164]; exact te_k hT _
          try have f_166 : 0 ≤ Int32.toInt v_164 ∧ Int32.toInt v_164 ≤ 5 := by rw [ev_164]; exact te_2r hT (by omega) (by omega)
          try have f_167 : 0 ≤ Int32.toInt v_164 ∧ Int32.toInt v_164 ≤ 1 := by rw [ev_164]; exact te_2h hT (by omega) (by omega)
          try have f_168 : 0 ≤ Int32.toInt v_164 ∧ Int32.toInt v_164 ≤ 5 := by rw [ev_164]; exact te_2s hT (by omega) (by omega)
          try have f_169 : 0 ≤ Int32.toInt v_164 ∧ Int32.toInt v_164 ≤ 400 := by rw [ev_164]; exact te_2z hT (by omega) (by omega)
          refine dOk_B (ok_lessThan q v_164 hT) (fun r_170 q_171 h_172 => ?_)
          replace h_172 : (q_171 = q) ∧ (0 ≤ Int32.toInt r_170 ∧ Int32.toInt r_170 ≤ 6) := h_172
          obtain ⟨i_173, i_174⟩ := h_172
          subst q_171
          try have t_175 : Int32.toInt (0 + x2_149 + 1) = Int32.toInt (0 + x2_149) + 1 := ti_add rfl (by decide) (by omega) (by omega)
          refine dOk_G (dg_ok (show 0 ≤ Int32.toInt (0 + x2_149 + 1) by omega) (show Int32.toInt (0 + x2_149 + 1) < ((5640 : Nat) : Int) by omega)) ?_
          have n_176 : ((Int32.toNatClampNeg (0 + x2_149 + 1) : Nat) : Int) = Int32.toInt (0 + x2_149 + 1) := cl_eq (by omega)
          refine dOk_L (fun v_177 ev_177 => ?_)
          try have g_178 : klo (Int32.toNatClampNeg (0 + x2_149 + 1)) ≤ Int32.toInt v_177 ∧ Int32.toInt v_177 ≤ khi (Int32.toNatClampNeg (0 + x2_149 + 1)) := by rw [ev_177]; exact te_k hT _
          try have f_179 : 0 ≤ Int32.toInt v_177 ∧ Int32.toInt v_177 ≤ 5 := by rw [ev_177]; exact te_2r hT (by omega) (by omega)
          try have f_180 : 0 ≤ Int32.toInt v_177 ∧ Int32.toInt v_177 ≤ 1 := by rw [ev_177]; exact te_2h hT (by omega) (by omega)
          try have f_181 : 0 ≤ Int32.toInt v_177 ∧ Int32.toInt v_177 ≤ 5 := by rw [ev_177]; exact te_2s hT (by omega) (by omega)
          try have f_182 : 0 ≤ Int32.toInt v_177 ∧ Int32.toInt v_177 ≤ 400 := by rw [ev_177]; exact te_2z hT (by omega) (by omega)
          refine dOk_B (ok_lessThan q v_177 hT) (fun r_183 q_184 h_185 => ?_)
          replace h_185 : (q_184 = q) ∧ (0 ≤ Int32.toInt r_183 ∧ Int32.toInt r_183 ≤ 6) := h_185
          obtain ⟨i_186, i_187⟩ := h_185
          subst q_184
          try have t_188 : Int32.toInt (r_170 - r_183) = Int32.toInt r_170 - Int32.toInt r_183 := ti_sub rfl rfl (by omega) (by omega)
          refine dOk_eq (A := Int32.toInt (r_170 - r_183)) (B := 1) rfl (by decide) (fun c_189z c_189 => ?_) (fun c_190z c_190 => ?_)
          · unfold zX10_gaps_90
            unfold zX10_gaps_95
            try have t_192 : Int32.toInt (x1_148 + 0) = Int32.toInt x1_148 + 0 := ti_add rfl (by decide) (by omega) (by omega)
            exact hk_145 (q, (x1_148 + 0), (x2_149 + 1)) (show (q = q) ∧ (0 ≤ Int32.toInt (x2_149 + 1)) ∧ (Int32.toInt (x2_149 + 1) ≤ 6) from ⟨rfl, by omega, by omega⟩) (show (6 - Int32.toInt (x2_149 + 1)).toNat < (6 - Int32.toInt x2_149).toNat by omega)
          · refine dOk_eq (A := Int32.toInt (r_170 - r_183)) (B := (-1)) rfl (by decide) (fun c_193z c_193 => ?_) (fun c_194z c_194 => ?_)
            · unfold zX10_gaps_90
              unfold zX10_gaps_95
              try have t_196 : Int32.toInt (x1_148 + 0) = Int32.toInt x1_148 + 0 := ti_add rfl (by decide) (by omega) (by omega)
              exact hk_145 (q, (x1_148 + 0), (x2_149 + 1)) (show (q = q) ∧ (0 ≤ Int32.toInt (x2_149 + 1)) ∧ (Int32.toInt (x2_149 + 1) ≤ 6) from ⟨rfl, by omega, by omega⟩) (show (6 - Int32.toInt (x2_149 + 1)).toNat < (6 - Int32.toInt x2_149).toNat by omega)
            · unfold zX10_gaps_95
              try have t_197 : Int32.toInt (x1_148 + 1) = Int32.toInt x1_148 + 1 := ti_add rfl (by decide) (by omega) (by omega)
              exact hk_145 (q, (x1_148 + 1), (x2_149 + 1)) (show (q = q) ∧ (0 ≤ Int32.toInt (x2_149 + 1)) ∧ (Int32.toInt (x2_149 + 1) ≤ 6) from ⟨rfl, by omega, by omega⟩) (show (6 - Int32.toInt (x2_149 + 1)).toNat < (6 - Int32.toInt x2_149).toNat by omega)
      · exact (show (q = q) ∧ (0 ≤ (0 : Int)) ∧ ((0 : Int) ≤ 6) from ⟨rfl, by omega, by omega⟩)
      · show (6 - (0 : Int)).toNat < 1000000000000
        omega

set_option maxHeartbeats 4000000 in
set_option maxRecDepth 100000 in
theorem ok_orderValue (q : dS) (p1 : Int32) (p2 : Int32) (hT : TS q) : dOk (zX10_orderValue q p1 p2) (fun (o : Int32 × dS) => (o.2 = q)) := by
  unfold zX10_orderValue
  refine dOk_eq (A := Int32.toInt p1) (B := 15) rfl (by decide) (fun c_1z c_1 => ?_) (fun c_2z c_2 => ?_)
  · refine dOk_B (ok_isPlace q p2 hT) (fun r_4 q_5 h_6 => ?_)
    replace h_6 : (q_5 = q) ∧ ((Int32.toInt r_4 = 1 ∧ 0 ≤ Int32.toInt p2 ∧ Int32.toInt p2 < Int32.toInt (q.1 2 29)) ∨ (Int32.toInt r_4 = 0 ∧ (Int32.toInt p2 < 0 ∨ Int32.toInt (q.1 2 29) ≤ Int32.toInt p2))) := h_6
    obtain ⟨i_7, i_8⟩ := h_6
    subst q_5
    have f_9 : 0 ≤ Int32.toInt (q.1 2 29) ∧ Int32.toInt (q.1 2 29) ≤ 6 := hT.1 2 29
    refine dOk_eq (A := Int32.toInt r_4) (B := 0) rfl (by decide) (fun c_10z c_10 => ?_) (fun c_11z c_11 => ?_)
    · unfold zX10_orderValue_65
      exact dOk_some (show (q = q) from rfl)
    · try have t_13 : Int32.toInt (6 + p2) = 6 + Int32.toInt p2 := ti_add (by decide) rfl (by omega) (by omega)
      refine dOk_G (dg_ok (show 0 ≤ Int32.toInt (6 + p2) by omega) (show Int32.toInt (6 + p2) < ((5640 : Nat) : Int) by omega)) ?_
      have n_14 : ((Int32.toNatClampNeg (6 + p2) : Nat) : Int) = Int32.toInt (6 + p2) := cl_eq (by omega)
      refine dOk_L (fun v_15 ev_15 => ?_)
      try have g_16 : klo (Int32.toNatClampNeg (6 + p2)) ≤ Int32.toInt v_15 ∧ Int32.toInt v_15 ≤ khi (Int32.toNatClampNeg (6 + p2)) := by rw [ev_15]; exact te_k hT _
      try have f_17 : 0 ≤ Int32.toInt v_15 ∧ Int32.toInt v_15 ≤ 5 := by rw [ev_15]; exact te_2r hT (by omega) (by omega)
      try have f_18 : 0 ≤ Int32.toInt v_15 ∧ Int32.toInt v_15 ≤ 1 := by rw [ev_15]; exact te_2h hT (by omega) (by omega)
      try have f_19 : 0 ≤ Int32.toInt v_15 ∧ Int32.toInt v_15 ≤ 5 := by rw [ev_15]; exact te_2s hT (by omega) (by omega)
      try have f_20 : 0 ≤ Int32.toInt v_15 ∧ Int32.toInt v_15 ≤ 400 := by rw [ev_15]; exact te_2z hT (by omega) (by omega)
      unfold zX10_orderValue_65
      exact dOk_some (show (q = q) from rfl)
  · refine dOk_eq (A := Int32.toInt p1) (B := 16) rfl (by decide) (fun c_21z c_21 => ?_) (fun c_22z c_22 => ?_)
    · have f_24 : 0 ≤ Int32.toInt (q.1 2 13) ∧ Int32.toInt (q.1 2 13) ≤ 999 := hT.1 2 13
      exact dOk_some (show (q = q) from rfl)
    · refine dOk_eq (A := Int32.toInt p1) (B := 17) rfl (by decide) (fun c_25z c_25 => ?_) (fun c_26z c_26 => ?_)
      · exact dOk_some (show (q = q) from rfl)
      · refine dOk_eq (A := Int32.toInt p1) (B := 18) rfl (by decide) (fun c_28z c_28 => ?_) (fun c_29z c_29 => ?_)
        · exact dOk_some (show (q = q) from rfl)
        · refine dOk_eq (A := Int32.toInt p1) (B := 19) rfl (by decide) (fun c_31z c_31 => ?_) (fun c_32z c_32 => ?_)
          · have f_34 : 0 ≤ Int32.toInt (q.1 2 12) ∧ Int32.toInt (q.1 2 12) ≤ 9999 := hT.1 2 12
            exact dOk_some (show (q = q) from rfl)
          · refine dOk_eq (A := Int32.toInt p1) (B := 20) rfl (by decide) (fun c_35z c_35 => ?_) (fun c_36z c_36 => ?_)
            · refine dOk_B (ok_gaps q hT) (fun r_38 q_39 h_40 => ?_)
              replace h_40 : (q_39 = q) := h_40
              have i_41 := h_40
              subst q_39
              exact dOk_some (show (q = q) from rfl)
            · refine dOk_eq (A := Int32.toInt p1) (B := 21) rfl (by decide) (fun c_42z c_42 => ?_) (fun c_43z c_43 => ?_)
              · refine dOk_B (ok_isPlace q p2 hT) (fun r_45 q_46 h_47 => ?_)
                replace h_47 : (q_46 = q) ∧ ((Int32.toInt r_45 = 1 ∧ 0 ≤ Int32.toInt p2 ∧ Int32.toInt p2 < Int32.toInt (q.1 2 29)) ∨ (Int32.toInt r_45 = 0 ∧ (Int32.toInt p2 < 0 ∨ Int32.toInt (q.1 2 29) ≤ Int32.toInt p2))) := h_47
                obtain ⟨i_48, i_49⟩ := h_47
                subst q_46
                have f_50 : 0 ≤ Int32.toInt (q.1 2 29) ∧ Int32.toInt (q.1 2 29) ≤ 6 := hT.1 2 29
                refine dOk_eq (A := Int32.toInt r_45) (B := 0) rfl (by decide) (fun c_51z c_51 => ?_) (fun c_52z c_52 => ?_)
                · unfold zX10_orderValue_86
                  exact dOk_some (show (q = q) from rfl)
                · try have t_54 : Int32.toInt (0 + p2) = 0 + Int32.toInt p2 := ti_add (by decide) rfl (by omega) (by omega)
                  refine dOk_G (dg_ok (show 0 ≤ Int32.toInt (0 + p2) by omega) (show Int32.toInt (0 + p2) < ((5640 : Nat) : Int) by omega)) ?_
                  have n_55 : ((Int32.toNatClampNeg (0 + p2) : Nat) : Int) = Int32.toInt (0 + p2) := cl_eq (by omega)
                  refine dOk_L (fun v_56 ev_56 => ?_)
                  try have g_57 : klo (Int32.toNatClampNeg (0 + p2)) ≤ Int32.toInt v_56 ∧ Int32.toInt v_56 ≤ khi (Int32.toNatClampNeg (0 + p2)) := by rw [ev_56]; exact te_k hT _
                  try have f_58 : 0 ≤ Int32.toInt v_56 ∧ Int32.toInt v_56 ≤ 5 := by rw [ev_56]; exact te_2r hT (by omega) (by omega)
                  try have f_59 : 0 ≤ Int32.toInt v_56 ∧ Int32.toInt v_56 ≤ 1 := by rw [ev_56]; exact te_2h hT (by omega) (by omega)
                  try have f_60 : 0 ≤ Int32.toInt v_56 ∧ Int32.toInt v_56 ≤ 5 := by rw [ev_56]; exact te_2s hT (by omega) (by omega)
                  try have f_61 : 0 ≤ Int32.toInt v_56 ∧ Int32.toInt v_56 ≤ 400 := by rw [ev_56]; exact te_2z hT (by omega) (by omega)
                  unfold zX10_orderValue_86
                  exact dOk_some (show (q = q) from rfl)
              · refine dOk_B (ok_gaps q hT) (fun r_62 q_63 h_64 => ?_)
                replace h_64 : (q_63 = q) := h_64
                have i_65 := h_64
                subst q_63
                exact dOk_some (show (q = q) from rfl)

set_option maxHeartbeats 4000000 in
set_option maxRecDepth 100000 in
theorem ok_isTerm (p1 : Int32) (p2 : Int32) : dOk (zX10_isTerm p1 p2) (fun (o : Int32) => ((Int32.toInt o = 1 ∧ ((Int32.toInt p1 = 0 ∧ 0 ≤ Int32.toInt p2 ∧ Int32.toInt p2 ≤ 999) ∨ (Int32.toInt p1 = 1 ∧ 0 ≤ Int32.toInt p2 ∧ Int32.toInt p2 ≤ 10) ∨ (Int32.toInt p1 = 2 ∧ 0 ≤ Int32.toInt p2 ∧ Int32.toInt p2 ≤ 9) ∨ (Int32.toInt p1 = 3 ∧ 0 ≤ Int32.toInt p2 ∧ Int32.toInt p2 ≤ 1))) ∨ (Int32.toInt o = 0 ∧ (¬ Int32.toInt p1 = 1 ∨ Int32.toInt p2 < 0 ∨ 10 < Int32.toInt p2)))) := by
  unfold zX10_isTerm
  refine dOk_eq (A := Int32.toInt p1) (B := 0) rfl (by decide) (fun c_1z c_1 => ?_) (fun c_2z c_2 => ?_)
  · refine dOk_V (ok_lies p2 0 999) (fun r_4 h_5 => ?_)
    replace h_5 : ((Int32.toInt r_4 = 1 ∧ (0 : Int) ≤ Int32.toInt p2 ∧ Int32.toInt p2 ≤ (999 : Int)) ∨ (Int32.toInt r_4 = 0 ∧ (Int32.toInt p2 < (0 : Int) ∨ (999 : Int) < Int32.toInt p2))) := h_5
    have i_6 := h_5
    refine dOk_G (dbl_ok (show Int32.toInt r_4 = 0 ∨ Int32.toInt r_4 = 1 by omega)) ?_
    exact dOk_some (show ((Int32.toInt r_4 = 1 ∧ ((Int32.toInt p1 = 0 ∧ 0 ≤ Int32.toInt p2 ∧ Int32.toInt p2 ≤ 999) ∨ (Int32.toInt p1 = 1 ∧ 0 ≤ Int32.toInt p2 ∧ Int32.toInt p2 ≤ 10) ∨ (Int32.toInt p1 = 2 ∧ 0 ≤ Int32.toInt p2 ∧ Int32.toInt p2 ≤ 9) ∨ (Int32.toInt p1 = 3 ∧ 0 ≤ Int32.toInt p2 ∧ Int32.toInt p2 ≤ 1))) ∨ (Int32.toInt r_4 = 0 ∧ (¬ Int32.toInt p1 = 1 ∨ Int32.toInt p2 < 0 ∨ 10 < Int32.toInt p2))) from (by omega))
  · refine dOk_eq (A := Int32.toInt p1) (B := 1) rfl (by decide) (fun c_7z c_7 => ?_) (fun c_8z c_8 => ?_)
    · refine dOk_V (ok_lies p2 0 10) (fun r_10 h_11 => ?_)
      replace h_11 : ((Int32.toInt r_10 = 1 ∧ (0 : Int) ≤ Int32.toInt p2 ∧ Int32.toInt p2 ≤ (10 : Int)) ∨ (Int32.toInt r_10 = 0 ∧ (Int32.toInt p2 < (0 : Int) ∨ (10 : Int) < Int32.toInt p2))) := h_11
      have i_12 := h_11
      refine dOk_G (dbl_ok (show Int32.toInt r_10 = 0 ∨ Int32.toInt r_10 = 1 by omega)) ?_
      exact dOk_some (show ((Int32.toInt r_10 = 1 ∧ ((Int32.toInt p1 = 0 ∧ 0 ≤ Int32.toInt p2 ∧ Int32.toInt p2 ≤ 999) ∨ (Int32.toInt p1 = 1 ∧ 0 ≤ Int32.toInt p2 ∧ Int32.toInt p2 ≤ 10) ∨ (Int32.toInt p1 = 2 ∧ 0 ≤ Int32.toInt p2 ∧ Int32.toInt p2 ≤ 9) ∨ (Int32.toInt p1 = 3 ∧ 0 ≤ Int32.toInt p2 ∧ Int32.toInt p2 ≤ 1))) ∨ (Int32.toInt r_10 = 0 ∧ (¬ Int32.toInt p1 = 1 ∨ Int32.toInt p2 < 0 ∨ 10 < Int32.toInt p2))) from (by omega))
    · refine dOk_eq (A := Int32.toInt p1) (B := 2) rfl (by decide) (fun c_13z c_13 => ?_) (fun c_14z c_14 => ?_)
      · refine dOk_V (ok_lies p2 0 9) (fun r_16 h_17 => ?_)
        replace h_17 : ((Int32.toInt r_16 = 1 ∧ (0 : Int) ≤ Int32.toInt p2 ∧ Int32.toInt p2 ≤ (9 : Int)) ∨ (Int32.toInt r_16 = 0 ∧ (Int32.toInt p2 < (0 : Int) ∨ (9 : Int) < Int32.toInt p2))) := h_17
        have i_18 := h_17
        refine dOk_G (dbl_ok (show Int32.toInt r_16 = 0 ∨ Int32.toInt r_16 = 1 by omega)) ?_
        exact dOk_some (show ((Int32.toInt r_16 = 1 ∧ ((Int32.toInt p1 = 0 ∧ 0 ≤ Int32.toInt p2 ∧ Int32.toInt p2 ≤ 999) ∨ (Int32.toInt p1 = 1 ∧ 0 ≤ Int32.toInt p2 ∧ Int32.toInt p2 ≤ 10) ∨ (Int32.toInt p1 = 2 ∧ 0 ≤ Int32.toInt p2 ∧ Int32.toInt p2 ≤ 9) ∨ (Int32.toInt p1 = 3 ∧ 0 ≤ Int32.toInt p2 ∧ Int32.toInt p2 ≤ 1))) ∨ (Int32.toInt r_16 = 0 ∧ (¬ Int32.toInt p1 = 1 ∨ Int32.toInt p2 < 0 ∨ 10 < Int32.toInt p2))) from (by omega))
      · refine dOk_eq (A := Int32.toInt p1) (B := 3) rfl (by decide) (fun c_19z c_19 => ?_) (fun c_20z c_20 => ?_)
        · refine dOk_V (ok_isBit p2) (fun r_22 h_23 => ?_)
          replace h_23 : ((Int32.toInt r_22 = 1 ∧ 0 ≤ Int32.toInt p2 ∧ Int32.toInt p2 ≤ 1) ∨ (Int32.toInt r_22 = 0 ∧ (Int32.toInt p2 < 0 ∨ 1 < Int32.toInt p2))) := h_23
          have i_24 := h_23
          refine dOk_G (dbl_ok (show Int32.toInt r_22 = 0 ∨ Int32.toInt r_22 = 1 by omega)) ?_
          exact dOk_some (show ((Int32.toInt r_22 = 1 ∧ ((Int32.toInt p1 = 0 ∧ 0 ≤ Int32.toInt p2 ∧ Int32.toInt p2 ≤ 999) ∨ (Int32.toInt p1 = 1 ∧ 0 ≤ Int32.toInt p2 ∧ Int32.toInt p2 ≤ 10) ∨ (Int32.toInt p1 = 2 ∧ 0 ≤ Int32.toInt p2 ∧ Int32.toInt p2 ≤ 9) ∨ (Int32.toInt p1 = 3 ∧ 0 ≤ Int32.toInt p2 ∧ Int32.toInt p2 ≤ 1))) ∨ (Int32.toInt r_22 = 0 ∧ (¬ Int32.toInt p1 = 1 ∨ Int32.toInt p2 < 0 ∨ 10 < Int32.toInt p2))) from (by omega))
        · exact dOk_some (show (((0 : Int) = 1 ∧ ((Int32.toInt p1 = 0 ∧ 0 ≤ Int32.toInt p2 ∧ Int32.toInt p2 ≤ 999) ∨ (Int32.toInt p1 = 1 ∧ 0 ≤ Int32.toInt p2 ∧ Int32.toInt p2 ≤ 10) ∨ (Int32.toInt p1 = 2 ∧ 0 ≤ Int32.toInt p2 ∧ Int32.toInt p2 ≤ 9) ∨ (Int32.toInt p1 = 3 ∧ 0 ≤ Int32.toInt p2 ∧ Int32.toInt p2 ≤ 1))) ∨ ((0 : Int) = 0 ∧ (¬ Int32.toInt p1 = 1 ∨ Int32.toInt p2 < 0 ∨ 10 < Int32.toInt p2))) from (by omega))

set_option maxHeartbeats 4000000 in
set_option maxRecDepth 100000 in
theorem ok_termAt (p1 : Int32) : dOk (zX10_termAt p1) (fun (o : Int32) => ((Int32.toInt p1 = 0 ∧ Int32.toInt o = 13) ∨ (Int32.toInt p1 = 1 ∧ Int32.toInt o = 26) ∨ (Int32.toInt p1 = 2 ∧ Int32.toInt o = 27) ∨ (¬ Int32.toInt p1 = 0 ∧ ¬ Int32.toInt p1 = 1 ∧ ¬ Int32.toInt p1 = 2 ∧ Int32.toInt o = 28))) := by
  unfold zX10_termAt
  refine dOk_eq (A := Int32.toInt p1) (B := 0) rfl (by decide) (fun c_1z c_1 => ?_) (fun c_2z c_2 => ?_)
  · unfold zX10_termAt_31
    exact dOk_some (show ((Int32.toInt p1 = 0 ∧ (13 : Int) = 13) ∨ (Int32.toInt p1 = 1 ∧ (13 : Int) = 26) ∨ (Int32.toInt p1 = 2 ∧ (13 : Int) = 27) ∨ (¬ Int32.toInt p1 = 0 ∧ ¬ Int32.toInt p1 = 1 ∧ ¬ Int32.toInt p1 = 2 ∧ (13 : Int) = 28)) from (by omega))
  · refine dOk_eq (A := Int32.toInt p1) (B := 1) rfl (by decide) (fun c_4z c_4 => ?_) (fun c_5z c_5 => ?_)
    · unfold zX10_termAt_31
      exact dOk_some (show ((Int32.toInt p1 = 0 ∧ (26 : Int) = 13) ∨ (Int32.toInt p1 = 1 ∧ (26 : Int) = 26) ∨ (Int32.toInt p1 = 2 ∧ (26 : Int) = 27) ∨ (¬ Int32.toInt p1 = 0 ∧ ¬ Int32.toInt p1 = 1 ∧ ¬ Int32.toInt p1 = 2 ∧ (26 : Int) = 28)) from (by omega))
    · refine dOk_eq (A := Int32.toInt p1) (B := 2) rfl (by decide) (fun c_7z c_7 => ?_) (fun c_8z c_8 => ?_)
      · unfold zX10_termAt_31
        exact dOk_some (show ((Int32.toInt p1 = 0 ∧ (27 : Int) = 13) ∨ (Int32.toInt p1 = 1 ∧ (27 : Int) = 26) ∨ (Int32.toInt p1 = 2 ∧ (27 : Int) = 27) ∨ (¬ Int32.toInt p1 = 0 ∧ ¬ Int32.toInt p1 = 1 ∧ ¬ Int32.toInt p1 = 2 ∧ (27 : Int) = 28)) from (by omega))
      · unfold zX10_termAt_31
        exact dOk_some (show ((Int32.toInt p1 = 0 ∧ (28 : Int) = 13) ∨ (Int32.toInt p1 = 1 ∧ (28 : Int) = 26) ∨ (Int32.toInt p1 = 2 ∧ (28 : Int) = 27) ∨ (¬ Int32.toInt p1 = 0 ∧ ¬ Int32.toInt p1 = 1 ∧ ¬ Int32.toInt p1 = 2 ∧ (28 : Int) = 28)) from (by omega))

set_option maxHeartbeats 4000000 in
set_option maxRecDepth 100000 in
theorem ok_terms (q : dS) (p1 : Int32) (p2 : Int32) (hT : TS q) : dOk (zX10_terms q p1 p2) (fun (o : Int32 × dS) => (TS o.2) ∧ (dFr [1, 2] [0, 32] q o.2) ∧ (Int32.toInt (o.2.1 2 30) = Int32.toInt (q.1 2 30)) ∧ ((Int32.toInt p1 = 1 ∧ 0 ≤ Int32.toInt p2 ∧ Int32.toInt p2 ≤ 10 ∧ Int32.toInt (o.2.1 2 26) = Int32.toInt p2) ∨ ((¬ Int32.toInt p1 = 1 ∨ Int32.toInt p2 < 0 ∨ 10 < Int32.toInt p2) ∧ Int32.toInt (o.2.1 2 26) = Int32.toInt (q.1 2 26)))) := by
  unfold zX10_terms
  refine dOk_V (ok_isTerm p1 p2) (fun r_1 h_2 => ?_)
  replace h_2 : ((Int32.toInt r_1 = 1 ∧ ((Int32.toInt p1 = 0 ∧ 0 ≤ Int32.toInt p2 ∧ Int32.toInt p2 ≤ 999) ∨ (Int32.toInt p1 = 1 ∧ 0 ≤ Int32.toInt p2 ∧ Int32.toInt p2 ≤ 10) ∨ (Int32.toInt p1 = 2 ∧ 0 ≤ Int32.toInt p2 ∧ Int32.toInt p2 ≤ 9) ∨ (Int32.toInt p1 = 3 ∧ 0 ≤ Int32.toInt p2 ∧ Int32.toInt p2 ≤ 1))) ∨ (Int32.toInt r_1 = 0 ∧ (¬ Int32.toInt p1 = 1 ∨ Int32.toInt p2 < 0 ∨ 10 < Int32.toInt p2))) := h_2
  have i_3 := h_2
  refine dOk_eq (A := Int32.toInt r_1) (B := 0) rfl (by decide) (fun c_4z c_4 => ?_) (fun c_5z c_5 => ?_)
  · refine dOk_B (ok_refuses q (-1) hT (show (-6) ≤ (-1 : Int) by omega) (show (-1 : Int) ≤ 0 by omega)) (fun r_7 q_8 h_9 => ?_)
    replace h_9 : (TS q_8) ∧ (dFr [1] [0] q q_8) ∧ (Int32.toInt r_7 = (-1 : Int)) := h_9
    obtain ⟨i_10, i_11, i_12⟩ := h_9
    have hFq_8 : dFr [1, 2] [0, 32] q q_8 := (dFr.rf (q := q)).t i_11 (by decide) (by decide)
    have f_13 : 0 ≤ Int32.toInt (q_8.1 2 30) ∧ Int32.toInt (q_8.1 2 30) ≤ 6 := i_10.1 2 30
    have f_14 : 0 ≤ Int32.toInt (q.1 2 30) ∧ Int32.toInt (q.1 2 30) ≤ 6 := hT.1 2 30
    have w_15 : Int32.toInt (q_8.1 2 30) = Int32.toInt (q.1 2 30) := by rw [i_11.1 2 (by decide) (by decide)]
    have f_16 : 0 ≤ Int32.toInt (q_8.1 2 26) ∧ Int32.toInt (q_8.1 2 26) ≤ 10 := i_10.1 2 26
    have f_17 : 0 ≤ Int32.toInt (q.1 2 26) ∧ Int32.toInt (q.1 2 26) ≤ 10 := hT.1 2 26
    have w_18 : Int32.toInt (q_8.1 2 26) = Int32.toInt (q.1 2 26) := by rw [i_11.1 2 (by decide) (by decide)]
    exact dOk_some (show (TS q_8) ∧ (dFr [1, 2] [0, 32] q q_8) ∧ (Int32.toInt (q_8.1 2 30) = Int32.toInt (q.1 2 30)) ∧ ((Int32.toInt p1 = 1 ∧ 0 ≤ Int32.toInt p2 ∧ Int32.toInt p2 ≤ 10 ∧ Int32.toInt (q_8.1 2 26) = Int32.toInt p2) ∨ ((¬ Int32.toInt p1 = 1 ∨ Int32.toInt p2 < 0 ∨ 10 < Int32.toInt p2) ∧ Int32.toInt (q_8.1 2 26) = Int32.toInt (q.1 2 26))) from ⟨i_10, hFq_8, by omega, by omega⟩)
  · refine dOk_V (ok_termAt p1) (fun r_19 h_20 => ?_)
    replace h_20 : ((Int32.toInt p1 = 0 ∧ Int32.toInt r_19 = 13) ∨ (Int32.toInt p1 = 1 ∧ Int32.toInt r_19 = 26) ∨ (Int32.toInt p1 = 2 ∧ Int32.toInt r_19 = 27) ∨ (¬ Int32.toInt p1 = 0 ∧ ¬ Int32.toInt p1 = 1 ∧ ¬ Int32.toInt p1 = 2 ∧ Int32.toInt r_19 = 28)) := h_20
    have i_21 := h_20
    refine dOk_G (dg_ok (show 0 ≤ Int32.toInt r_19 by omega) (show Int32.toInt r_19 < ((5640 : Nat) : Int) by omega)) ?_
    have n_22 : ((Int32.toNatClampNeg r_19 : Nat) : Int) = Int32.toInt r_19 := cl_eq (by omega)
    refine dOk_L (fun v_23 ev_23 => ?_)
    try have g_24 : klo (Int32.toNatClampNeg r_19) ≤ Int32.toInt v_23 ∧ Int32.toInt v_23 ≤ khi (Int32.toNatClampNeg r_19) := by rw [ev_23]; exact te_k hT _
    try have f_25 : 0 ≤ Int32.toInt v_23 ∧ Int32.toInt v_23 ≤ 5 := by rw [ev_23]; exact te_2r hT (by omega) (by omega)
    try have f_26 : 0 ≤ Int32.toInt v_23 ∧ Int32.toInt v_23 ≤ 1 := by rw [ev_23]; exact te_2h hT (by omega) (by omega)
    try have f_27 : 0 ≤ Int32.toInt v_23 ∧ Int32.toInt v_23 ≤ 5 := by rw [ev_23]; exact te_2s hT (by omega) (by omega)
    try have f_28 : 0 ≤ Int32.toInt v_23 ∧ Int32.toInt v_23 ≤ 400 := by rw [ev_23]; exact te_2z hT (by omega) (by omega)
    refine dOk_V (ok_termAt p1) (fun r_29 h_30 => ?_)
    replace h_30 : ((Int32.toInt p1 = 0 ∧ Int32.toInt r_29 = 13) ∨ (Int32.toInt p1 = 1 ∧ Int32.toInt r_29 = 26) ∨ (Int32.toInt p1 = 2 ∧ Int32.toInt r_29 = 27) ∨ (¬ Int32.toInt p1 = 0 ∧ ¬ Int32.toInt p1 = 1 ∧ ¬ Int32.toInt p1 = 2 ∧ Int32.toInt r_29 = 28)) := h_30
    have i_31 := h_30
    refine dOk_G (dg_ok (show 0 ≤ Int32.toInt r_29 by omega) (show Int32.toInt r_29 < ((5640 : Nat) : Int) by omega)) ?_
    have n_32 : ((Int32.toNatClampNeg r_29 : Nat) : Int) = Int32.toInt r_29 := cl_eq (by omega)
    refine dOk_L (fun q_33 eq_33 => ?_)
    have hTq_33 : TS q_33 := by rw [eq_33]; exact ts_set2 hT (by omega) (show klo (Int32.toNatClampNeg r_29) ≤ Int32.toInt p2 by unfold klo; omega) (show Int32.toInt p2 ≤ khi (Int32.toNatClampNeg r_29) by unfold khi; omega)
    have hFq_33 : dFr [1, 2] [0, 32] q q_33 := by rw [eq_33]; exact (dFr.rf (q := q)).i (by decide) (by decide)
    refine dOk_B (ok_settled q_33 v_23 hTq_33) (fun r_34 q_35 h_36 => ?_)
    replace h_36 : (TS q_35) ∧ (dFr [] [0, 32] q_33 q_35) ∧ (Int32.toInt r_34 = Int32.toInt v_23) := h_36
    obtain ⟨i_37, i_38, i_39⟩ := h_36
    have hFq_35 : dFr [1, 2] [0, 32] q q_35 := hFq_33.t i_38 (by decide) (by decide)
    have f_40 : 0 ≤ Int32.toInt (q_35.1 2 30) ∧ Int32.toInt (q_35.1 2 30) ≤ 6 := i_37.1 2 30
    have f_41 : 0 ≤ Int32.toInt (q_33.1 2 30) ∧ Int32.toInt (q_33.1 2 30) ≤ 6 := hTq_33.1 2 30
    have f_42 : 0 ≤ Int32.toInt (q.1 2 30) ∧ Int32.toInt (q.1 2 30) ≤ 6 := hT.1 2 30
    try have w_43 : Int32.toInt (q_33.1 2 30) = Int32.toInt (q.1 2 30) := by rw [eq_33, dui_n (by omega)]
    have w_44 : Int32.toInt (q_35.1 2 30) = Int32.toInt (q_33.1 2 30) := by rw [i_38.1 2 (by decide) (by decide)]
    have f_45 : 0 ≤ Int32.toInt (q_35.1 2 26) ∧ Int32.toInt (q_35.1 2 26) ≤ 10 := i_37.1 2 26
    have f_46 : 0 ≤ Int32.toInt (q_33.1 2 26) ∧ Int32.toInt (q_33.1 2 26) ≤ 10 := hTq_33.1 2 26
    have f_47 : 0 ≤ Int32.toInt (q.1 2 26) ∧ Int32.toInt (q.1 2 26) ≤ 10 := hT.1 2 26
    have w_48 : ((((Int32.toNatClampNeg r_29) : Nat) : Int) = 26 ∧ Int32.toInt (q_33.1 2 26) = Int32.toInt p2) ∨ (¬ (((Int32.toNatClampNeg r_29) : Nat) : Int) = 26 ∧ Int32.toInt (q_33.1 2 26) = Int32.toInt (q.1 2 26)) := by rw [eq_33]; by_cases c9 : (Int32.toNatClampNeg r_29) = 26; exact Or.inl ⟨by omega, by rw [c9, dui_e]⟩; exact Or.inr ⟨by omega, by rw [dui_n (by omega)]⟩
    have w_49 : Int32.toInt (q_35.1 2 26) = Int32.toInt (q_33.1 2 26) := by rw [i_38.1 2 (by decide) (by decide)]
    exact dOk_some (show (TS q_35) ∧ (dFr [1, 2] [0, 32] q q_35) ∧ (Int32.toInt (q_35.1 2 30) = Int32.toInt (q.1 2 30)) ∧ ((Int32.toInt p1 = 1 ∧ 0 ≤ Int32.toInt p2 ∧ Int32.toInt p2 ≤ 10 ∧ Int32.toInt (q_35.1 2 26) = Int32.toInt p2) ∨ ((¬ Int32.toInt p1 = 1 ∨ Int32.toInt p2 < 0 ∨ 10 < Int32.toInt p2) ∧ Int32.toInt (q_35.1 2 26) = Int32.toInt (q.1 2 26))) from ⟨i_37, hFq_35, by omega, by omega⟩)
end
section
set_option maxHeartbeats 4000000 in
set_option maxRecDepth 100000 in
theorem ok_row (q : dS) (hT : TS q) : dOk (zX10_row q) (fun (o : Int32 × dS) => (TS o.2) ∧ (dFr [1, 2] [0, 6, 13, 32] q o.2) ∧ (Int32.toInt (o.2.1 0 13) = 0) ∧ (Int32.toInt (o.2.1 2 30) = Int32.toInt (q.1 2 30)) ∧ (Int32.toInt (o.2.1 2 26) = Int32.toInt (q.1 2 26))) := by
  unfold zX10_row
  refine dOk_L (fun q_1 eq_1 => ?_)
  have hTq_1 : TS q_1 := by rw [eq_1]; exact ts_f hT (show 0 ≤ (0 : Int) by omega) (show (0 : Int) ≤ 400 by omega)
  have hFq_1 : dFr [1, 2] [0, 6, 13, 32] q q_1 := by rw [eq_1]; exact (dFr.rf (q := q)).f (by decide)
  have f_2 : 0 ≤ Int32.toInt (q.1 0 13) ∧ Int32.toInt (q.1 0 13) ≤ 400 := hT.1 0 13
  refine dOk_eq (A := Int32.toInt (q.1 0 13)) (B := 0) rfl (by decide) (fun c_3z c_3 => ?_) (fun c_4z c_4 => ?_)
  · refine dOk_B (ok_refuses q_1 (-6) hTq_1 (show (-6) ≤ (-6 : Int) by omega) (show (-6 : Int) ≤ 0 by omega)) (fun r_6 q_7 h_8 => ?_)
    replace h_8 : (TS q_7) ∧ (dFr [1] [0] q_1 q_7) ∧ (Int32.toInt r_6 = (-6 : Int)) := h_8
    obtain ⟨i_9, i_10, i_11⟩ := h_8
    have hFq_7 : dFr [1, 2] [0, 6, 13, 32] q q_7 := hFq_1.t i_10 (by decide) (by decide)
    have f_12 : 0 ≤ Int32.toInt (q_7.1 0 13) ∧ Int32.toInt (q_7.1 0 13) ≤ 400 := i_9.1 0 13
    have f_13 : 0 ≤ Int32.toInt (q_1.1 0 13) ∧ Int32.toInt (q_1.1 0 13) ≤ 400 := hTq_1.1 0 13
    have w_14 : Int32.toInt (q_1.1 0 13) = (0 : Int) := by rw [eq_1, dui_e]; decide
    have w_15 : Int32.toInt (q_7.1 0 13) = Int32.toInt (q_1.1 0 13) := by rw [i_10.2 13 (by decide)]
    have f_16 : 0 ≤ Int32.toInt (q_7.1 2 30) ∧ Int32.toInt (q_7.1 2 30) ≤ 6 := i_9.1 2 30
    have f_17 : 0 ≤ Int32.toInt (q_1.1 2 30) ∧ Int32.toInt (q_1.1 2 30) ≤ 6 := hTq_1.1 2 30
    have f_18 : 0 ≤ Int32.toInt (q.1 2 30) ∧ Int32.toInt (q.1 2 30) ≤ 6 := hT.1 2 30
    have w_19 : Int32.toInt (q_1.1 2 30) = Int32.toInt (q.1 2 30) := by rw [eq_1, dui_o (by decide)]
    have w_20 : Int32.toInt (q_7.1 2 30) = Int32.toInt (q_1.1 2 30) := by rw [i_10.1 2 (by decide) (by decide)]
    have f_21 : 0 ≤ Int32.toInt (q_7.1 2 26) ∧ Int32.toInt (q_7.1 2 26) ≤ 10 := i_9.1 2 26
    have f_22 : 0 ≤ Int32.toInt (q_1.1 2 26) ∧ Int32.toInt (q_1.1 2 26) ≤ 10 := hTq_1.1 2 26
    have f_23 : 0 ≤ Int32.toInt (q.1 2 26) ∧ Int32.toInt (q.1 2 26) ≤ 10 := hT.1 2 26
    have w_24 : Int32.toInt (q_1.1 2 26) = Int32.toInt (q.1 2 26) := by rw [eq_1, dui_o (by decide)]
    have w_25 : Int32.toInt (q_7.1 2 26) = Int32.toInt (q_1.1 2 26) := by rw [i_10.1 2 (by decide) (by decide)]
    exact dOk_some (show (TS q_7) ∧ (dFr [1, 2] [0, 6, 13, 32] q q_7) ∧ (Int32.toInt (q_7.1 0 13) = 0) ∧ (Int32.toInt (q_7.1 2 30) = Int32.toInt (q.1 2 30)) ∧ (Int32.toInt (q_7.1 2 26) = Int32.toInt (q.1 2 26)) from ⟨i_9, hFq_7, by omega, by omega, by omega⟩)
  · refine dOk_L (fun q_26 eq_26 => ?_)
    try have t_27 : Int32.toInt (q.1 0 13 - q.1 0 13 / 2 * 2) = Int32.toInt (q.1 0 13) % 2 := ti_rem rfl (by decide) (by omega) (by omega)
    have hTq_26 : TS q_26 := by rw [eq_26]; exact ts_f hTq_1 (ti_rg _).1 (ti_rg _).2
    have hFq_26 : dFr [1, 2] [0, 6, 13, 32] q q_26 := by rw [eq_26]; exact hFq_1.f (by decide)
    unfold zX10_row_32
    refine dFix_ok (fun (a : dS × Int32 × Int32 × Int32) => (TS a.1) ∧ (dFr [2] [6] q_26 a.1) ∧ (a.2.1 = (q.1 0 13)) ∧ (0 ≤ Int32.toInt a.2.2.2) ∧ (Int32.toInt a.2.2.2 ≤ 402) ∧ (Int32.toInt (a.1.1 2 30) = Int32.toInt (q_26.1 2 30)) ∧ (Int32.toInt (a.1.1 2 26) = Int32.toInt (q_26.1 2 26))) (fun (a : dS × Int32 × Int32 × Int32) => (402 - Int32.toInt a.2.2.2).toNat) ?_ _ ?_ _ (dF_gt ?_)
    · intro a ha k_29 hk_28
      obtain ⟨q_30, x1_31, x2_32, x3_33⟩ := a
      replace ha : (TS q_30) ∧ (dFr [2] [6] q_26 q_30) ∧ (x1_31 = (q.1 0 13)) ∧ (0 ≤ Int32.toInt x3_33) ∧ (Int32.toInt x3_33 ≤ 402) ∧ (Int32.toInt (q_30.1 2 30) = Int32.toInt (q_26.1 2 30)) ∧ (Int32.toInt (q_30.1 2 26) = Int32.toInt (q_26.1 2 26)) := ha
      obtain ⟨a_34, a_35, a_36, a_37, a_38, a_39, a_40⟩ := ha
      show dOk (zX10_row_32b  (fun q x1 x2 x3 => k_29 (q, x1, x2, x3)) q_30 x1_31 x2_32 x3_33) _
      unfold zX10_row_32b
      have hFq_30 : dFr [1, 2] [0, 6, 13, 32] q q_30 := hFq_26.t a_35 (by decide) (by decide)
      subst x1_31
      have f_41 : 0 ≤ Int32.toInt (q_30.1 2 30) ∧ Int32.toInt (q_30.1 2 30) ≤ 6 := a_34.1 2 30
      have f_42 : 0 ≤ Int32.toInt (q_26.1 2 30) ∧ Int32.toInt (q_26.1 2 30) ≤ 6 := hTq_26.1 2 30
      have f_43 : 0 ≤ Int32.toInt (q_1.1 2 30) ∧ Int32.toInt (q_1.1 2 30) ≤ 6 := hTq_1.1 2 30
      have f_44 : 0 ≤ Int32.toInt (q.1 2 30) ∧ Int32.toInt (q.1 2 30) ≤ 6 := hT.1 2 30
      have w_45 : Int32.toInt (q_1.1 2 30) = Int32.toInt (q.1 2 30) := by rw [eq_1, dui_o (by decide)]
      have w_46 : Int32.toInt (q_26.1 2 30) = Int32.toInt (q_1.1 2 30) := by rw [eq_26, dui_o (by decide)]
      have f_47 : 0 ≤ Int32.toInt (q_30.1 2 26) ∧ Int32.toInt (q_30.1 2 26) ≤ 10 := a_34.1 2 26
      have f_48 : 0 ≤ Int32.toInt (q_26.1 2 26) ∧ Int32.toInt (q_26.1 2 26) ≤ 10 := hTq_26.1 2 26
      have f_49 : 0 ≤ Int32.toInt (q_1.1 2 26) ∧ Int32.toInt (q_1.1 2 26) ≤ 10 := hTq_1.1 2 26
      have f_50 : 0 ≤ Int32.toInt (q.1 2 26) ∧ Int32.toInt (q.1 2 26) ≤ 10 := hT.1 2 26
      have w_51 : Int32.toInt (q_1.1 2 26) = Int32.toInt (q.1 2 26) := by rw [eq_1, dui_o (by decide)]
      have w_52 : Int32.toInt (q_26.1 2 26) = Int32.toInt (q_1.1 2 26) := by rw [eq_26, dui_o (by decide)]
      try have t_53 : Int32.toInt (x3_33 + 2) = Int32.toInt x3_33 + 2 := ti_add rfl (by decide) (by omega) (by omega)
      refine dOk_lt (A := Int32.toInt (q.1 0 13)) (B := Int32.toInt (x3_33 + 2)) rfl rfl (fun c_54 => ?_) (fun c_55 => ?_)
      · refine dOk_B (ok_settled q_30 x2_32 a_34) (fun r_56 q_57 h_58 => ?_)
        replace h_58 : (TS q_57) ∧ (dFr [] [0, 32] q_30 q_57) ∧ (Int32.toInt r_56 = Int32.toInt x2_32) := h_58
        obtain ⟨i_59, i_60, i_61⟩ := h_58
        have hFq_57 : dFr [1, 2] [0, 6, 13, 32] q q_57 := hFq_30.t i_60 (by decide) (by decide)
        have f_62 : 0 ≤ Int32.toInt (q_57.1 0 13) ∧ Int32.toInt (q_57.1 0 13) ≤ 400 := i_59.1 0 13
        have f_63 : 0 ≤ Int32.toInt (q_30.1 0 13) ∧ Int32.toInt (q_30.1 0 13) ≤ 400 := a_34.1 0 13
        have f_64 : 0 ≤ Int32.toInt (q_26.1 0 13) ∧ Int32.toInt (q_26.1 0 13) ≤ 400 := hTq_26.1 0 13
        have f_65 : 0 ≤ Int32.toInt (q_1.1 0 13) ∧ Int32.toInt (q_1.1 0 13) ≤ 400 := hTq_1.1 0 13
        have w_66 : Int32.toInt (q_1.1 0 13) = (0 : Int) := by rw [eq_1, dui_e]; decide
        have w_67 : Int32.toInt (q_26.1 0 13) = Int32.toInt (q_1.1 0 13) := by rw [eq_26, dui_n (by decide)]
        have w_68 : Int32.toInt (q_30.1 0 13) = Int32.toInt (q_26.1 0 13) := by rw [a_35.2 13 (by decide)]
        have w_69 : Int32.toInt (q_57.1 0 13) = Int32.toInt (q_30.1 0 13) := by rw [i_60.2 13 (by decide)]
        have f_70 : 0 ≤ Int32.toInt (q_57.1 2 30) ∧ Int32.toInt (q_57.1 2 30) ≤ 6 := i_59.1 2 30
        have w_71 : Int32.toInt (q_57.1 2 30) = Int32.toInt (q_30.1 2 30) := by rw [i_60.1 2 (by decide) (by decide)]
        have f_72 : 0 ≤ Int32.toInt (q_57.1 2 26) ∧ Int32.toInt (q_57.1 2 26) ≤ 10 := i_59.1 2 26
        have w_73 : Int32.toInt (q_57.1 2 26) = Int32.toInt (q_30.1 2 26) := by rw [i_60.1 2 (by decide) (by decide)]
        exact dOk_some (show (TS q_57) ∧ (dFr [1, 2] [0, 6, 13, 32] q q_57) ∧ (Int32.toInt (q_57.1 0 13) = 0) ∧ (Int32.toInt (q_57.1 2 30) = Int32.toInt (q.1 2 30)) ∧ (Int32.toInt (q_57.1 2 26) = Int32.toInt (q.1 2 26)) from ⟨i_59, hFq_57, by omega, by omega, by omega⟩)
      · refine dOk_B (ok_size q_30 a_34) (fun r_74 q_75 h_76 => ?_)
        replace h_76 : (q_75 = q_30) ∧ (Int32.toInt r_74 = Int32.toInt (q_30.1 2 29)) ∧ (0 ≤ Int32.toInt r_74 ∧ Int32.toInt r_74 ≤ 6) := h_76
        obtain ⟨i_77, i_78, i_79⟩ := h_76
        subst q_75
        have f_80 : 0 ≤ Int32.toInt (q_30.1 2 29) ∧ Int32.toInt (q_30.1 2 29) ≤ 6 := a_34.1 2 29
        refine dOk_le (A := 6) (B := Int32.toInt r_74) (by decide) rfl (fun c_81 => ?_) (fun c_82 => ?_)
        · unfold zX10_row_92
          unfold zX10_row_93
          refine dOk_eq (A := 0) (B := 0) (by decide) (by decide) (fun c_83z c_83 => ?_) (fun c_84z c_84 => ?_)
          · unfold zX10_row_118
            refine dOk_eq (A := 0) (B := 0) (by decide) (by decide) (fun c_86z c_86 => ?_) (fun c_87z c_87 => ?_)
            · unfold zX10_row_129
              refine dOk_eq (A := 0) (B := 0) (by decide) (by decide) (fun c_89z c_89 => ?_) (fun c_90z c_90 => ?_)
              · unfold zX10_row_146
                refine dOk_L (fun q_92 eq_92 => ?_)
                try have t_93 : Int32.toInt (q_30.1 0 6 + 1) = Int32.toInt (q_30.1 0 6) + 1 := ti_add rfl (by decide) (by omega) (by omega)
                have hTq_92 : TS q_92 := by rw [eq_92]; exact ts_f a_34 (ti_rg _).1 (ti_rg _).2
                have hFq_92 : dFr [1, 2] [0, 6, 13, 32] q q_92 := by rw [eq_92]; exact hFq_30.f (by decide)
                try have t_94 : Int32.toInt (x2_32 + 0) = Int32.toInt x2_32 + 0 := ti_add rfl (by decide) (by omega) (by omega)
                have f_95 : 0 ≤ Int32.toInt (q_92.1 2 30) ∧ Int32.toInt (q_92.1 2 30) ≤ 6 := hTq_92.1 2 30
                have w_96 : Int32.toInt (q_92.1 2 30) = Int32.toInt (q_30.1 2 30) := by rw [eq_92, dui_o (by decide)]
                have f_97 : 0 ≤ Int32.toInt (q_92.1 2 26) ∧ Int32.toInt (q_92.1 2 26) ≤ 10 := hTq_92.1 2 26
                have w_98 : Int32.toInt (q_92.1 2 26) = Int32.toInt (q_30.1 2 26) := by rw [eq_92, dui_o (by decide)]
                exact hk_28 (q_92, (q.1 0 13), (x2_32 + 0), (x3_33 + 2)) (show (TS q_92) ∧ (dFr [2] [6] q_26 q_92) ∧ ((q.1 0 13) = (q.1 0 13)) ∧ (0 ≤ Int32.toInt (x3_33 + 2)) ∧ (Int32.toInt (x3_33 + 2) ≤ 402) ∧ (Int32.toInt (q_92.1 2 30) = Int32.toInt (q_26.1 2 30)) ∧ (Int32.toInt (q_92.1 2 26) = Int32.toInt (q_26.1 2 26)) from ⟨hTq_92, (by rw [eq_92]; exact (((dFr.rf : dFr [2] [6] q_26 q_26).t a_35 (by decide) (by decide)) : dFr [2] [6] q_26 q_30).f (by decide)), rfl, by omega, by omega, by omega, by omega⟩) (show (402 - Int32.toInt (x3_33 + 2)).toNat < (402 - Int32.toInt x3_33).toNat by omega)
              · unfold zX10_row_146
                refine dOk_L (fun q_99 eq_99 => ?_)
                try have t_100 : Int32.toInt (q_30.1 0 6 + 0) = Int32.toInt (q_30.1 0 6) + 0 := ti_add rfl (by decide) (by omega) (by omega)
                have hTq_99 : TS q_99 := by rw [eq_99]; exact ts_f a_34 (ti_rg _).1 (ti_rg _).2
                have hFq_99 : dFr [1, 2] [0, 6, 13, 32] q q_99 := by rw [eq_99]; exact hFq_30.f (by decide)
                try have t_101 : Int32.toInt (x2_32 + 0) = Int32.toInt x2_32 + 0 := ti_add rfl (by decide) (by omega) (by omega)
                have f_102 : 0 ≤ Int32.toInt (q_99.1 2 30) ∧ Int32.toInt (q_99.1 2 30) ≤ 6 := hTq_99.1 2 30
                have w_103 : Int32.toInt (q_99.1 2 30) = Int32.toInt (q_30.1 2 30) := by rw [eq_99, dui_o (by decide)]
                have f_104 : 0 ≤ Int32.toInt (q_99.1 2 26) ∧ Int32.toInt (q_99.1 2 26) ≤ 10 := hTq_99.1 2 26
                have w_105 : Int32.toInt (q_99.1 2 26) = Int32.toInt (q_30.1 2 26) := by rw [eq_99, dui_o (by decide)]
                exact hk_28 (q_99, (q.1 0 13), (x2_32 + 0), (x3_33 + 2)) (show (TS q_99) ∧ (dFr [2] [6] q_26 q_99) ∧ ((q.1 0 13) = (q.1 0 13)) ∧ (0 ≤ Int32.toInt (x3_33 + 2)) ∧ (Int32.toInt (x3_33 + 2) ≤ 402) ∧ (Int32.toInt (q_99.1 2 30) = Int32.toInt (q_26.1 2 30)) ∧ (Int32.toInt (q_99.1 2 26) = Int32.toInt (q_26.1 2 26)) from ⟨hTq_99, (by rw [eq_99]; exact (((dFr.rf : dFr [2] [6] q_26 q_26).t a_35 (by decide) (by decide)) : dFr [2] [6] q_26 q_30).f (by decide)), rfl, by omega, by omega, by omega, by omega⟩) (show (402 - Int32.toInt (x3_33 + 2)).toNat < (402 - Int32.toInt x3_33).toNat by omega)
            · unfold zX10_row_129
              refine dOk_eq (A := 0) (B := 0) (by decide) (by decide) (fun c_106z c_106 => ?_) (fun c_107z c_107 => ?_)
              · unfold zX10_row_146
                refine dOk_L (fun q_109 eq_109 => ?_)
                try have t_110 : Int32.toInt (q_30.1 0 6 + 1) = Int32.toInt (q_30.1 0 6) + 1 := ti_add rfl (by decide) (by omega) (by omega)
                have hTq_109 : TS q_109 := by rw [eq_109]; exact ts_f a_34 (ti_rg _).1 (ti_rg _).2
                have hFq_109 : dFr [1, 2] [0, 6, 13, 32] q q_109 := by rw [eq_109]; exact hFq_30.f (by decide)
                try have t_111 : Int32.toInt (x2_32 + 1) = Int32.toInt x2_32 + 1 := ti_add rfl (by decide) (by omega) (by omega)
                have f_112 : 0 ≤ Int32.toInt (q_109.1 2 30) ∧ Int32.toInt (q_109.1 2 30) ≤ 6 := hTq_109.1 2 30
                have w_113 : Int32.toInt (q_109.1 2 30) = Int32.toInt (q_30.1 2 30) := by rw [eq_109, dui_o (by decide)]
                have f_114 : 0 ≤ Int32.toInt (q_109.1 2 26) ∧ Int32.toInt (q_109.1 2 26) ≤ 10 := hTq_109.1 2 26
                have w_115 : Int32.toInt (q_109.1 2 26) = Int32.toInt (q_30.1 2 26) := by rw [eq_109, dui_o (by decide)]
                exact hk_28 (q_109, (q.1 0 13), (x2_32 + 1), (x3_33 + 2)) (show (TS q_109) ∧ (dFr [2] [6] q_26 q_109) ∧ ((q.1 0 13) = (q.1 0 13)) ∧ (0 ≤ Int32.toInt (x3_33 + 2)) ∧ (Int32.toInt (x3_33 + 2) ≤ 402) ∧ (Int32.toInt (q_109.1 2 30) = Int32.toInt (q_26.1 2 30)) ∧ (Int32.toInt (q_109.1 2 26) = Int32.toInt (q_26.1 2 26)) from ⟨hTq_109, (by rw [eq_109]; exact (((dFr.rf : dFr [2] [6] q_26 q_26).t a_35 (by decide) (by decide)) : dFr [2] [6] q_26 q_30).f (by decide)), rfl, by omega, by omega, by omega, by omega⟩) (show (402 - Int32.toInt (x3_33 + 2)).toNat < (402 - Int32.toInt x3_33).toNat by omega)
              · unfold zX10_row_146
                refine dOk_L (fun q_116 eq_116 => ?_)
                try have t_117 : Int32.toInt (q_30.1 0 6 + 0) = Int32.toInt (q_30.1 0 6) + 0 := ti_add rfl (by decide) (by omega) (by omega)
                have hTq_116 : TS q_116 := by rw [eq_116]; exact ts_f a_34 (ti_rg _).1 (ti_rg _).2
                have hFq_116 : dFr [1, 2] [0, 6, 13, 32] q q_116 := by rw [eq_116]; exact hFq_30.f (by decide)
                try have t_118 : Int32.toInt (x2_32 + 1) = Int32.toInt x2_32 + 1 := ti_add rfl (by decide) (by omega) (by omega)
                have f_119 : 0 ≤ Int32.toInt (q_116.1 2 30) ∧ Int32.toInt (q_116.1 2 30) ≤ 6 := hTq_116.1 2 30
                have w_120 : Int32.toInt (q_116.1 2 30) = Int32.toInt (q_30.1 2 30) := by rw [eq_116, dui_o (by decide)]
                have f_121 : 0 ≤ Int32.toInt (q_116.1 2 26) ∧ Int32.toInt (q_116.1 2 26) ≤ 10 := hTq_116.1 2 26
                have w_122 : Int32.toInt (q_116.1 2 26) = Int32.toInt (q_30.1 2 26) := by rw [eq_116, dui_o (by decide)]
                exact hk_28 (q_116, (q.1 0 13), (x2_32 + 1), (x3_33 + 2)) (show (TS q_116) ∧ (dFr [2] [6] q_26 q_116) ∧ ((q.1 0 13) = (q.1 0 13)) ∧ (0 ≤ Int32.toInt (x3_33 + 2)) ∧ (Int32.toInt (x3_33 + 2) ≤ 402) ∧ (Int32.toInt (q_116.1 2 30) = Int32.toInt (q_26.1 2 30)) ∧ (Int32.toInt (q_116.1 2 26) = Int32.toInt (q_26.1 2 26)) from ⟨hTq_116, (by rw [eq_116]; exact (((dFr.rf : dFr [2] [6] q_26 q_26).t a_35 (by decide) (by decide)) : dFr [2] [6] q_26 q_30).f (by decide)), rfl, by omega, by omega, by omega, by omega⟩) (show (402 - Int32.toInt (x3_33 + 2)).toNat < (402 - Int32.toInt x3_33).toNat by omega)
          · refine dOk_G (dg_ok (show 0 ≤ Int32.toInt x3_33 by omega) (show Int32.toInt x3_33 < ((400 : Nat) : Int) by omega)) ?_
            have n_123 : ((Int32.toNatClampNeg x3_33 : Nat) : Int) = Int32.toInt x3_33 := cl_eq (by omega)
            refine dOk_L (fun v_124 ev_124 => ?_)
            try have t_125 : Int32.toInt (x3_33 + 1) = Int32.toInt x3_33 + 1 := ti_add rfl (by decide) (by omega) (by omega)
            refine dOk_G (dg_ok (show 0 ≤ Int32.toInt (x3_33 + 1) by omega) (show Int32.toInt (x3_33 + 1) < ((400 : Nat) : Int) by omega)) ?_
            have n_126 : ((Int32.toNatClampNeg (x3_33 + 1) : Nat) : Int) = Int32.toInt (x3_33 + 1) := cl_eq (by omega)
            refine dOk_L (fun v_127 ev_127 => ?_)
            refine dOk_V (ok_adds q_30 v_124 v_127 a_34 (show Int32.toInt (q_30.1 2 29) < 6 by omega) (show 0 ≤ Int32.toInt v_124 ∧ Int32.toInt v_124 ≤ 5 by omega) (show 0 ≤ Int32.toInt v_127 ∧ Int32.toInt v_127 ≤ 1 by omega)) (fun q_128 h_129 => ?_)
            replace h_129 : (TS q_128) ∧ (dFr [2] [] q_30 q_128) ∧ (Int32.toInt (q_128.1 2 29) = Int32.toInt (q_30.1 2 29) + 1) ∧ (Int32.toInt (q_128.1 2 30) = Int32.toInt (q_30.1 2 30)) ∧ (Int32.toInt (q_128.1 2 26) = Int32.toInt (q_30.1 2 26)) := h_129
            obtain ⟨i_130, i_131, i_132, i_133, i_134⟩ := h_129
            have hFq_128 : dFr [1, 2] [0, 6, 13, 32] q q_128 := hFq_30.t i_131 (by decide) (by decide)
            have f_135 : 0 ≤ Int32.toInt (q_128.1 2 29) ∧ Int32.toInt (q_128.1 2 29) ≤ 6 := i_130.1 2 29
            have f_136 : 0 ≤ Int32.toInt (q_128.1 2 30) ∧ Int32.toInt (q_128.1 2 30) ≤ 6 := i_130.1 2 30
            have f_137 : 0 ≤ Int32.toInt (q_128.1 2 26) ∧ Int32.toInt (q_128.1 2 26) ≤ 10 := i_130.1 2 26
            unfold zX10_row_118
            refine dOk_eq (A := 0) (B := 0) (by decide) (by decide) (fun c_138z c_138 => ?_) (fun c_139z c_139 => ?_)
            · unfold zX10_row_129
              refine dOk_eq (A := 0) (B := 0) (by decide) (by decide) (fun c_141z c_141 => ?_) (fun c_142z c_142 => ?_)
              · unfold zX10_row_146
                refine dOk_L (fun q_144 eq_144 => ?_)
                have w_145 : Int32.toInt (q_128.1 0 6) = Int32.toInt (q_30.1 0 6) := by rw [i_131.2 6 (by decide)]
                try have t_146 : Int32.toInt (q_128.1 0 6 + 1) = Int32.toInt (q_128.1 0 6) + 1 := ti_add rfl (by decide) (by omega) (by omega)
                have hTq_144 : TS q_144 := by rw [eq_144]; exact ts_f i_130 (ti_rg _).1 (ti_rg _).2
                have hFq_144 : dFr [1, 2] [0, 6, 13, 32] q q_144 := by rw [eq_144]; exact hFq_128.f (by decide)
                try have t_147 : Int32.toInt (x2_32 + 0) = Int32.toInt x2_32 + 0 := ti_add rfl (by decide) (by omega) (by omega)
                have f_148 : 0 ≤ Int32.toInt (q_144.1 2 30) ∧ Int32.toInt (q_144.1 2 30) ≤ 6 := hTq_144.1 2 30
                have w_149 : Int32.toInt (q_144.1 2 30) = Int32.toInt (q_128.1 2 30) := by rw [eq_144, dui_o (by decide)]
                have f_150 : 0 ≤ Int32.toInt (q_144.1 2 26) ∧ Int32.toInt (q_144.1 2 26) ≤ 10 := hTq_144.1 2 26
                have w_151 : Int32.toInt (q_144.1 2 26) = Int32.toInt (q_128.1 2 26) := by rw [eq_144, dui_o (by decide)]
                exact hk_28 (q_144, (q.1 0 13), (x2_32 + 0), (x3_33 + 2)) (show (TS q_144) ∧ (dFr [2] [6] q_26 q_144) ∧ ((q.1 0 13) = (q.1 0 13)) ∧ (0 ≤ Int32.toInt (x3_33 + 2)) ∧ (Int32.toInt (x3_33 + 2) ≤ 402) ∧ (Int32.toInt (q_144.1 2 30) = Int32.toInt (q_26.1 2 30)) ∧ (Int32.toInt (q_144.1 2 26) = Int32.toInt (q_26.1 2 26)) from ⟨hTq_144, (by rw [eq_144]; exact (((((dFr.rf : dFr [2] [6] q_26 q_26).t a_35 (by decide) (by decide)) : dFr [2] [6] q_26 q_30).t i_131 (by decide) (by decide)) : dFr [2] [6] q_26 q_128).f (by decide)), rfl, by omega, by omega, by omega, by omega⟩) (show (402 - Int32.toInt (x3_33 + 2)).toNat < (402 - Int32.toInt x3_33).toNat by omega)
              · unfold zX10_row_146
                refine dOk_L (fun q_152 eq_152 => ?_)
                have w_153 : Int32.toInt (q_128.1 0 6) = Int32.toInt (q_30.1 0 6) := by rw [i_131.2 6 (by decide)]
                try have t_154 : Int32.toInt (q_128.1 0 6 + 0) = Int32.toInt (q_128.1 0 6) + 0 := ti_add rfl (by decide) (by omega) (by omega)
                have hTq_152 : TS q_152 := by rw [eq_152]; exact ts_f i_130 (ti_rg _).1 (ti_rg _).2
                have hFq_152 : dFr [1, 2] [0, 6, 13, 32] q q_152 := by rw [eq_152]; exact hFq_128.f (by decide)
                try have t_155 : Int32.toInt (x2_32 + 0) = Int32.toInt x2_32 + 0 := ti_add rfl (by decide) (by omega) (by omega)
                have f_156 : 0 ≤ Int32.toInt (q_152.1 2 30) ∧ Int32.toInt (q_152.1 2 30) ≤ 6 := hTq_152.1 2 30
                have w_157 : Int32.toInt (q_152.1 2 30) = Int32.toInt (q_128.1 2 30) := by rw [eq_152, dui_o (by decide)]
                have f_158 : 0 ≤ Int32.toInt (q_152.1 2 26) ∧ Int32.toInt (q_152.1 2 26) ≤ 10 := hTq_152.1 2 26
                have w_159 : Int32.toInt (q_152.1 2 26) = Int32.toInt (q_128.1 2 26) := by rw [eq_152, dui_o (by decide)]
                exact hk_28 (q_152, (q.1 0 13), (x2_32 + 0), (x3_33 + 2)) (show (TS q_152) ∧ (dFr [2] [6] q_26 q_152) ∧ ((q.1 0 13) = (q.1 0 13)) ∧ (0 ≤ Int32.toInt (x3_33 + 2)) ∧ (Int32.toInt (x3_33 + 2) ≤ 402) ∧ (Int32.toInt (q_152.1 2 30) = Int32.toInt (q_26.1 2 30)) ∧ (Int32.toInt (q_152.1 2 26) = Int32.toInt (q_26.1 2 26)) from ⟨hTq_152, (by rw [eq_152]; exact (((((dFr.rf : dFr [2] [6] q_26 q_26).t a_35 (by decide) (by decide)) : dFr [2] [6] q_26 q_30).t i_131 (by decide) (by decide)) : dFr [2] [6] q_26 q_128).f (by decide)), rfl, by omega, by omega, by omega, by omega⟩) (show (402 - Int32.toInt (x3_33 + 2)).toNat < (402 - Int32.toInt x3_33).toNat by omega)
            · unfold zX10_row_129
              refine dOk_eq (A := 0) (B := 0) (by decide) (by decide) (fun c_160z c_160 => ?_) (fun c_161z c_161 => ?_)
              · unfold zX10_row_146
                refine dOk_L (fun q_163 eq_163 => ?_)
                have w_164 : Int32.toInt (q_128.1 0 6) = Int32.toInt (q_30.1 0 6) := by rw [i_131.2 6 (by decide)]
                try have t_165 : Int32.toInt (q_128.1 0 6 + 1) = Int32.toInt (q_128.1 0 6) + 1 := ti_add rfl (by decide) (by omega) (by omega)
                have hTq_163 : TS q_163 := by rw [eq_163]; exact ts_f i_130 (ti_rg _).1 (ti_rg _).2
                have hFq_163 : dFr [1, 2] [0, 6, 13, 32] q q_163 := by rw [eq_163]; exact hFq_128.f (by decide)
                try have t_166 : Int32.toInt (x2_32 + 1) = Int32.toInt x2_32 + 1 := ti_add rfl (by decide) (by omega) (by omega)
                have f_167 : 0 ≤ Int32.toInt (q_163.1 2 30) ∧ Int32.toInt (q_163.1 2 30) ≤ 6 := hTq_163.1 2 30
                have w_168 : Int32.toInt (q_163.1 2 30) = Int32.toInt (q_128.1 2 30) := by rw [eq_163, dui_o (by decide)]
                have f_169 : 0 ≤ Int32.toInt (q_163.1 2 26) ∧ Int32.toInt (q_163.1 2 26) ≤ 10 := hTq_163.1 2 26
                have w_170 : Int32.toInt (q_163.1 2 26) = Int32.toInt (q_128.1 2 26) := by rw [eq_163, dui_o (by decide)]
                exact hk_28 (q_163, (q.1 0 13), (x2_32 + 1), (x3_33 + 2)) (show (TS q_163) ∧ (dFr [2] [6] q_26 q_163) ∧ ((q.1 0 13) = (q.1 0 13)) ∧ (0 ≤ Int32.toInt (x3_33 + 2)) ∧ (Int32.toInt (x3_33 + 2) ≤ 402) ∧ (Int32.toInt (q_163.1 2 30) = Int32.toInt (q_26.1 2 30)) ∧ (Int32.toInt (q_163.1 2 26) = Int32.toInt (q_26.1 2 26)) from ⟨hTq_163, (by rw [eq_163]; exact (((((dFr.rf : dFr [2] [6] q_26 q_26).t a_35 (by decide) (by decide)) : dFr [2] [6] q_26 q_30).t i_131 (by decide) (by decide)) : dFr [2] [6] q_26 q_128).f (by decide)), rfl, by omega, by omega, by omega, by omega⟩) (show (402 - Int32.toInt (x3_33 + 2)).toNat < (402 - Int32.toInt x3_33).toNat by omega)
              · unfold zX10_row_146
                refine dOk_L (fun q_171 eq_171 => ?_)
                have w_172 : Int32.toInt (q_128.1 0 6) = Int32.toInt (q_30.1 0 6) := by rw [i_131.2 6 (by decide)]
                try have t_173 : Int32.toInt (q_128.1 0 6 + 0) = Int32.toInt (q_128.1 0 6) + 0 := ti_add rfl (by decide) (by omega) (by omega)
                have hTq_171 : TS q_171 := by rw [eq_171]; exact ts_f i_130 (ti_rg _).1 (ti_rg _).2
                have hFq_171 : dFr [1, 2] [0, 6, 13, 32] q q_171 := by rw [eq_171]; exact hFq_128.f (by decide)
                try have t_174 : Int32.toInt (x2_32 + 1) = Int32.toInt x2_32 + 1 := ti_add rfl (by decide) (by omega) (by omega)
                have f_175 : 0 ≤ Int32.toInt (q_171.1 2 30) ∧ Int32.toInt (q_171.1 2 30) ≤ 6 := hTq_171.1 2 30
                have w_176 : Int32.toInt (q_171.1 2 30) = Int32.toInt (q_128.1 2 30) := by rw [eq_171, dui_o (by decide)]
                have f_177 : 0 ≤ Int32.toInt (q_171.1 2 26) ∧ Int32.toInt (q_171.1 2 26) ≤ 10 := hTq_171.1 2 26
                have w_178 : Int32.toInt (q_171.1 2 26) = Int32.toInt (q_128.1 2 26) := by rw [eq_171, dui_o (by decide)]
                exact hk_28 (q_171, (q.1 0 13), (x2_32 + 1), (x3_33 + 2)) (show (TS q_171) ∧ (dFr [2] [6] q_26 q_171) ∧ ((q.1 0 13) = (q.1 0 13)) ∧ (0 ≤ Int32.toInt (x3_33 + 2)) ∧ (Int32.toInt (x3_33 + 2) ≤ 402) ∧ (Int32.toInt (q_171.1 2 30) = Int32.toInt (q_26.1 2 30)) ∧ (Int32.toInt (q_171.1 2 26) = Int32.toInt (q_26.1 2 26)) from ⟨hTq_171, (by rw [eq_171]; exact (((((dFr.rf : dFr [2] [6] q_26 q_26).t a_35 (by decide) (by decide)) : dFr [2] [6] q_26 q_30).t i_131 (by decide) (by decide)) : dFr [2] [6] q_26 q_128).f (by decide)), rfl, by omega, by omega, by omega, by omega⟩) (show (402 - Int32.toInt (x3_33 + 2)).toNat < (402 - Int32.toInt x3_33).toNat by omega)
        · refine dOk_G (dg_ok (show 0 ≤ Int32.toInt x3_33 by omega) (show Int32.toInt x3_33 < ((400 : Nat) : Int) by omega)) ?_
          have n_179 : ((Int32.toNatClampNeg x3_33 : Nat) : Int) = Int32.toInt x3_33 := cl_eq (by omega)
          refine dOk_L (fun v_180 ev_180 => ?_)
          refine dOk_V (ok_isRank v_180) (fun r_181 h_182 => ?_)
          replace h_182 : ((Int32.toInt r_181 = 1 ∧ 0 ≤ Int32.toInt v_180 ∧ Int32.toInt v_180 ≤ 5) ∨ (Int32.toInt r_181 = 0 ∧ (Int32.toInt v_180 < 0 ∨ 5 < Int32.toInt v_180))) := h_182
          have i_183 := h_182
          refine dOk_eq (A := Int32.toInt r_181) (B := 0) rfl (by decide) (fun c_184z c_184 => ?_) (fun c_185z c_185 => ?_)
          · unfold zX10_row_92
            unfold zX10_row_93
            refine dOk_eq (A := 0) (B := 0) (by decide) (by decide) (fun c_187z c_187 => ?_) (fun c_188z c_188 => ?_)
            · unfold zX10_row_118
              refine dOk_eq (A := 0) (B := 0) (by decide) (by decide) (fun c_190z c_190 => ?_) (fun c_191z c_191 => ?_)
              · unfold zX10_row_129
                refine dOk_eq (A := 0) (B := 0) (by decide) (by decide) (fun c_193z c_193 => ?_) (fun c_194z c_194 => ?_)
                · unfold zX10_row_146
                  refine dOk_L (fun q_196 eq_196 => ?_)
                  try have t_197 : Int32.toInt (q_30.1 0 6 + 1) = Int32.toInt (q_30.1 0 6) + 1 := ti_add rfl (by decide) (by omega) (by omega)
                  have hTq_196 : TS q_196 := by rw [eq_196]; exact ts_f a_34 (ti_rg _).1 (ti_rg _).2
                  have hFq_196 : dFr [1, 2] [0, 6, 13, 32] q q_196 := by rw [eq_196]; exact hFq_30.f (by decide)
                  try have t_198 : Int32.toInt (x2_32 + 0) = Int32.toInt x2_32 + 0 := ti_add rfl (by decide) (by omega) (by omega)
                  have f_199 : 0 ≤ Int32.toInt (q_196.1 2 30) ∧ Int32.toInt (q_196.1 2 30) ≤ 6 := hTq_196.1 2 30
                  have w_200 : Int32.toInt (q_196.1 2 30) = Int32.toInt (q_30.1 2 30) := by rw [eq_196, dui_o (by decide)]
                  have f_201 : 0 ≤ Int32.toInt (q_196.1 2 26) ∧ Int32.toInt (q_196.1 2 26) ≤ 10 := hTq_196.1 2 26
                  have w_202 : Int32.toInt (q_196.1 2 26) = Int32.toInt (q_30.1 2 26) := by rw [eq_196, dui_o (by decide)]
                  exact hk_28 (q_196, (q.1 0 13), (x2_32 + 0), (x3_33 + 2)) (show (TS q_196) ∧ (dFr [2] [6] q_26 q_196) ∧ ((q.1 0 13) = (q.1 0 13)) ∧ (0 ≤ Int32.toInt (x3_33 + 2)) ∧ (Int32.toInt (x3_33 + 2) ≤ 402) ∧ (Int32.toInt (q_196.1 2 30) = Int32.toInt (q_26.1 2 30)) ∧ (Int32.toInt (q_196.1 2 26) = Int32.toInt (q_26.1 2 26)) from ⟨hTq_196, (by rw [eq_196]; exact (((dFr.rf : dFr [2] [6] q_26 q_26).t a_35 (by decide) (by decide)) : dFr [2] [6] q_26 q_30).f (by decide)), rfl, by omega, by omega, by omega, by omega⟩) (show (402 - Int32.toInt (x3_33 + 2)).toNat < (402 - Int32.toInt x3_33).toNat by omega)
                · unfold zX10_row_146
                  refine dOk_L (fun q_203 eq_203 => ?_)
                  try have t_204 : Int32.toInt (q_30.1 0 6 + 0) = Int32.toInt (q_30.1 0 6) + 0 := ti_add rfl (by decide) (by omega) (by omega)
                  have hTq_203 : TS q_203 := by rw [eq_203]; exact ts_f a_34 (ti_rg _).1 (ti_rg _).2
                  have hFq_203 : dFr [1, 2] [0, 6, 13, 32] q q_203 := by rw [eq_203]; exact hFq_30.f (by decide)
                  try have t_205 : Int32.toInt (x2_32 + 0) = Int32.toInt x2_32 + 0 := ti_add rfl (by decide) (by omega) (by omega)
                  have f_206 : 0 ≤ Int32.toInt (q_203.1 2 30) ∧ Int32.toInt (q_203.1 2 30) ≤ 6 := hTq_203.1 2 30
                  have w_207 : Int32.toInt (q_203.1 2 30) = Int32.toInt (q_30.1 2 30) := by rw [eq_203, dui_o (by decide)]
                  have f_208 : 0 ≤ Int32.toInt (q_203.1 2 26) ∧ Int32.toInt (q_203.1 2 26) ≤ 10 := hTq_203.1 2 26
                  have w_209 : Int32.toInt (q_203.1 2 26) = Int32.toInt (q_30.1 2 26) := by rw [eq_203, dui_o (by decide)]
                  exact hk_28 (q_203, (q.1 0 13), (x2_32 + 0), (x3_33 + 2)) (show (TS q_203) ∧ (dFr [2] [6] q_26 q_203) ∧ ((q.1 0 13) = (q.1 0 13)) ∧ (0 ≤ Int32.toInt (x3_33 + 2)) ∧ (Int32.toInt (x3_33 + 2) ≤ 402) ∧ (Int32.toInt (q_203.1 2 30) = Int32.toInt (q_26.1 2 30)) ∧ (Int32.toInt (q_203.1 2 26) = Int32.toInt (q_26.1 2 26)) from ⟨hTq_203, (by rw [eq_203]; exact (((dFr.rf : dFr [2] [6] q_26 q_26).t a_35 (by decide) (by decide)) : dFr [2] [6] q_26 q_30).f (by decide)), rfl, by omega, by omega, by omega, by omega⟩) (show (402 - Int32.toInt (x3_33 + 2)).toNat < (402 - Int32.toInt x3_33).toNat by omega)
              · unfold zX10_row_129
                refine dOk_eq (A := 0) (B := 0) (by decide) (by decide) (fun c_210z c_210 => ?_) (fun c_211z c_211 => ?_)
                · unfold zX10_row_146
                  refine dOk_L (fun q_213 eq_213 => ?_)
                  try have t_214 : Int32.toInt (q_30.1 0 6 + 1) = Int32.toInt (q_30.1 0 6) + 1 := ti_add rfl (by decide) (by omega) (by omega)
                  have hTq_213 : TS q_213 := by rw [eq_213]; exact ts_f a_34 (ti_rg _).1 (ti_rg _).2
                  have hFq_213 : dFr [1, 2] [0, 6, 13, 32] q q_213 := by rw [eq_213]; exact hFq_30.f (by decide)
                  try have t_215 : Int32.toInt (x2_32 + 1) = Int32.toInt x2_32 + 1 := ti_add rfl (by decide) (by omega) (by omega)
                  have f_216 : 0 ≤ Int32.toInt (q_213.1 2 30) ∧ Int32.toInt (q_213.1 2 30) ≤ 6 := hTq_213.1 2 30
                  have w_217 : Int32.toInt (q_213.1 2 30) = Int32.toInt (q_30.1 2 30) := by rw [eq_213, dui_o (by decide)]
                  have f_218 : 0 ≤ Int32.toInt (q_213.1 2 26) ∧ Int32.toInt (q_213.1 2 26) ≤ 10 := hTq_213.1 2 26
                  have w_219 : Int32.toInt (q_213.1 2 26) = Int32.toInt (q_30.1 2 26) := by rw [eq_213, dui_o (by decide)]
                  exact hk_28 (q_213, (q.1 0 13), (x2_32 + 1), (x3_33 + 2)) (show (TS q_213) ∧ (dFr [2] [6] q_26 q_213) ∧ ((q.1 0 13) = (q.1 0 13)) ∧ (0 ≤ Int32.toInt (x3_33 + 2)) ∧ (Int32.toInt (x3_33 + 2) ≤ 402) ∧ (Int32.toInt (q_213.1 2 30) = Int32.toInt (q_26.1 2 30)) ∧ (Int32.toInt (q_213.1 2 26) = Int32.toInt (q_26.1 2 26)) from ⟨hTq_213, (by rw [eq_213]; exact (((dFr.rf : dFr [2] [6] q_26 q_26).t a_35 (by decide) (by decide)) : dFr [2] [6] q_26 q_30).f (by decide)), rfl, by omega, by omega, by omega, by omega⟩) (show (402 - Int32.toInt (x3_33 + 2)).toNat < (402 - Int32.toInt x3_33).toNat by omega)
                · unfold zX10_row_146
                  refine dOk_L (fun q_220 eq_220 => ?_)
                  try have t_221 : Int32.toInt (q_30.1 0 6 + 0) = Int32.toInt (q_30.1 0 6) + 0 := ti_add rfl (by decide) (by omega) (by omega)
                  have hTq_220 : TS q_220 := by rw [eq_220]; exact ts_f a_34 (ti_rg _).1 (ti_rg _).2
                  have hFq_220 : dFr [1, 2] [0, 6, 13, 32] q q_220 := by rw [eq_220]; exact hFq_30.f (by decide)
                  try have t_222 : Int32.toInt (x2_32 + 1) = Int32.toInt x2_32 + 1 := ti_add rfl (by decide) (by omega) (by omega)
                  have f_223 : 0 ≤ Int32.toInt (q_220.1 2 30) ∧ Int32.toInt (q_220.1 2 30) ≤ 6 := hTq_220.1 2 30
                  have w_224 : Int32.toInt (q_220.1 2 30) = Int32.toInt (q_30.1 2 30) := by rw [eq_220, dui_o (by decide)]
                  have f_225 : 0 ≤ Int32.toInt (q_220.1 2 26) ∧ Int32.toInt (q_220.1 2 26) ≤ 10 := hTq_220.1 2 26
                  have w_226 : Int32.toInt (q_220.1 2 26) = Int32.toInt (q_30.1 2 26) := by rw [eq_220, dui_o (by decide)]
                  exact hk_28 (q_220, (q.1 0 13), (x2_32 + 1), (x3_33 + 2)) (show (TS q_220) ∧ (dFr [2] [6] q_26 q_220) ∧ ((q.1 0 13) = (q.1 0 13)) ∧ (0 ≤ Int32.toInt (x3_33 + 2)) ∧ (Int32.toInt (x3_33 + 2) ≤ 402) ∧ (Int32.toInt (q_220.1 2 30) = Int32.toInt (q_26.1 2 30)) ∧ (Int32.toInt (q_220.1 2 26) = Int32.toInt (q_26.1 2 26)) from ⟨hTq_220, (by rw [eq_220]; exact (((dFr.rf : dFr [2] [6] q_26 q_26).t a_35 (by decide) (by decide)) : dFr [2] [6] q_26 q_30).f (by decide)), rfl, by omega, by omega, by omega, by omega⟩) (show (402 - Int32.toInt (x3_33 + 2)).toNat < (402 - Int32.toInt x3_33).toNat by omega)
            · refine dOk_G (dg_ok (show 0 ≤ Int32.toInt x3_33 by omega) (show Int32.toInt x3_33 < ((400 : Nat) : Int) by omega)) ?_
              refine dOk_L (fun v_227 ev_227 => ?_)
              have w_228 : Int32.toInt v_227 = Int32.toInt v_180 := by rw [ev_227, ev_180]
              try have t_229 : Int32.toInt (x3_33 + 1) = Int32.toInt x3_33 + 1 := ti_add rfl (by decide) (by omega) (by omega)
              refine dOk_G (dg_ok (show 0 ≤ Int32.toInt (x3_33 + 1) by omega) (show Int32.toInt (x3_33 + 1) < ((400 : Nat) : Int) by omega)) ?_
              have n_230 : ((Int32.toNatClampNeg (x3_33 + 1) : Nat) : Int) = Int32.toInt (x3_33 + 1) := cl_eq (by omega)
              refine dOk_L (fun v_231 ev_231 => ?_)
              refine dOk_V (ok_adds q_30 v_227 v_231 a_34 (show Int32.toInt (q_30.1 2 29) < 6 by omega) (show 0 ≤ Int32.toInt v_227 ∧ Int32.toInt v_227 ≤ 5 by omega) (show 0 ≤ Int32.toInt v_231 ∧ Int32.toInt v_231 ≤ 1 by omega)) (fun q_232 h_233 => ?_)
              replace h_233 : (TS q_232) ∧ (dFr [2] [] q_30 q_232) ∧ (Int32.toInt (q_232.1 2 29) = Int32.toInt (q_30.1 2 29) + 1) ∧ (Int32.toInt (q_232.1 2 30) = Int32.toInt (q_30.1 2 30)) ∧ (Int32.toInt (q_232.1 2 26) = Int32.toInt (q_30.1 2 26)) := h_233
              obtain ⟨i_234, i_235, i_236, i_237, i_238⟩ := h_233
              have hFq_232 : dFr [1, 2] [0, 6, 13, 32] q q_232 := hFq_30.t i_235 (by decide) (by decide)
              have f_239 : 0 ≤ Int32.toInt (q_232.1 2 29) ∧ Int32.toInt (q_232.1 2 29) ≤ 6 := i_234.1 2 29
              have f_240 : 0 ≤ Int32.toInt (q_232.1 2 30) ∧ Int32.toInt (q_232.1 2 30) ≤ 6 := i_234.1 2 30
              have f_241 : 0 ≤ Int32.toInt (q_232.1 2 26) ∧ Int32.toInt (q_232.1 2 26) ≤ 10 := i_234.1 2 26
              unfold zX10_row_118
              refine dOk_eq (A := 0) (B := 0) (by decide) (by decide) (fun c_242z c_242 => ?_) (fun c_243z c_243 => ?_)
              · unfold zX10_row_129
                refine dOk_eq (A := 0) (B := 0) (by decide) (by decide) (fun c_245z c_245 => ?_) (fun c_246z c_246 => ?_)
                · unfold zX10_row_146
                  refine dOk_L (fun q_248 eq_248 => ?_)
                  have w_249 : Int32.toInt (q_232.1 0 6) = Int32.toInt (q_30.1 0 6) := by rw [i_235.2 6 (by decide)]
                  try have t_250 : Int32.toInt (q_232.1 0 6 + 1) = Int32.toInt (q_232.1 0 6) + 1 := ti_add rfl (by decide) (by omega) (by omega)
                  have hTq_248 : TS q_248 := by rw [eq_248]; exact ts_f i_234 (ti_rg _).1 (ti_rg _).2
                  have hFq_248 : dFr [1, 2] [0, 6, 13, 32] q q_248 := by rw [eq_248]; exact hFq_232.f (by decide)
                  try have t_251 : Int32.toInt (x2_32 + 0) = Int32.toInt x2_32 + 0 := ti_add rfl (by decide) (by omega) (by omega)
                  have f_252 : 0 ≤ Int32.toInt (q_248.1 2 30) ∧ Int32.toInt (q_248.1 2 30) ≤ 6 := hTq_248.1 2 30
                  have w_253 : Int32.toInt (q_248.1 2 30) = Int32.toInt (q_232.1 2 30) := by rw [eq_248, dui_o (by decide)]
                  have f_254 : 0 ≤ Int32.toInt (q_248.1 2 26) ∧ Int32.toInt (q_248.1 2 26) ≤ 10 := hTq_248.1 2 26
                  have w_255 : Int32.toInt (q_248.1 2 26) = Int32.toInt (q_232.1 2 26) := by rw [eq_248, dui_o (by decide)]
                  exact hk_28 (q_248, (q.1 0 13), (x2_32 + 0), (x3_33 + 2)) (show (TS q_248) ∧ (dFr [2] [6] q_26 q_248) ∧ ((q.1 0 13) = (q.1 0 13)) ∧ (0 ≤ Int32.toInt (x3_33 + 2)) ∧ (Int32.toInt (x3_33 + 2) ≤ 402) ∧ (Int32.toInt (q_248.1 2 30) = Int32.toInt (q_26.1 2 30)) ∧ (Int32.toInt (q_248.1 2 26) = Int32.toInt (q_26.1 2 26)) from ⟨hTq_248, (by rw [eq_248]; exact (((((dFr.rf : dFr [2] [6] q_26 q_26).t a_35 (by decide) (by decide)) : dFr [2] [6] q_26 q_30).t i_235 (by decide) (by decide)) : dFr [2] [6] q_26 q_232).f (by decide)), rfl, by omega, by omega, by omega, by omega⟩) (show (402 - Int32.toInt (x3_33 + 2)).toNat < (402 - Int32.toInt x3_33).toNat by omega)
                · unfold zX10_row_146
                  refine dOk_L (fun q_256 eq_256 => ?_)
                  have w_257 : Int32.toInt (q_232.1 0 6) = Int32.toInt (q_30.1 0 6) := by rw [i_235.2 6 (by decide)]
                  try have t_258 : Int32.toInt (q_232.1 0 6 + 0) = Int32.toInt (q_232.1 0 6) + 0 := ti_add rfl (by decide) (by omega) (by omega)
                  have hTq_256 : TS q_256 := by rw [eq_256]; exact ts_f i_234 (ti_rg _).1 (ti_rg _).2
                  have hFq_256 : dFr [1, 2] [0, 6, 13, 32] q q_256 := by rw [eq_256]; exact hFq_232.f (by decide)
                  try have t_259 : Int32.toInt (x2_32 + 0) = Int32.toInt x2_32 + 0 := ti_add rfl (by decide) (by omega) (by omega)
                  have f_260 : 0 ≤ Int32.toInt (q_256.1 2 30) ∧ Int32.toInt (q_256.1 2 30) ≤ 6 := hTq_256.1 2 30
                  have w_261 : Int32.toInt (q_256.1 2 30) = Int32.toInt (q_232.1 2 30) := by rw [eq_256, dui_o (by decide)]
                  have f_262 : 0 ≤ Int32.toInt (q_256.1 2 26) ∧ Int32.toInt (q_256.1 2 26) ≤ 10 := hTq_256.1 2 26
                  have w_263 : Int32.toInt (q_256.1 2 26) = Int32.toInt (q_232.1 2 26) := by rw [eq_256, dui_o (by decide)]
                  exact hk_28 (q_256, (q.1 0 13), (x2_32 + 0), (x3_33 + 2)) (show (TS q_256) ∧ (dFr [2] [6] q_26 q_256) ∧ ((q.1 0 13) = (q.1 0 13)) ∧ (0 ≤ Int32.toInt (x3_33 + 2)) ∧ (Int32.toInt (x3_33 + 2) ≤ 402) ∧ (Int32.toInt (q_256.1 2 30) = Int32.toInt (q_26.1 2 30)) ∧ (Int32.toInt (q_256.1 2 26) = Int32.toInt (q_26.1 2 26)) from ⟨hTq_256, (by rw [eq_256]; exact (((((dFr.rf : dFr [2] [6] q_26 q_26).t a_35 (by decide) (by decide)) : dFr [2] [6] q_26 q_30).t i_235 (by decide) (by decide)) : dFr [2] [6] q_26 q_232).f (by decide)), rfl, by omega, by omega, by omega, by omega⟩) (show (402 - Int32.toInt (x3_33 + 2)).toNat < (402 - Int32.toInt x3_33).toNat by omega)
              · unfold zX10_row_129
                refine dOk_eq (A := 0) (B := 0) (by decide) (by decide) (fun c_264z c_264 => ?_) (fun c_265z c_265 => ?_)
                · unfold zX10_row_146
                  refine dOk_L (fun q_267 eq_267 => ?_)
                  have w_268 : Int32.toInt (q_232.1 0 6) = Int32.toInt (q_30.1 0 6) := by rw [i_235.2 6 (by decide)]
                  try have t_269 : Int32.toInt (q_232.1 0 6 + 1) = Int32.toInt (q_232.1 0 6) + 1 := ti_add rfl (by decide) (by omega) (by omega)
                  have hTq_267 : TS q_267 := by rw [eq_267]; exact ts_f i_234 (ti_rg _).1 (ti_rg _).2
                  have hFq_267 : dFr [1, 2] [0, 6, 13, 32] q q_267 := by rw [eq_267]; exact hFq_232.f (by decide)
                  try have t_270 : Int32.toInt (x2_32 + 1) = Int32.toInt x2_32 + 1 := ti_add rfl (by decide) (by omega) (by omega)
                  have f_271 : 0 ≤ Int32.toInt (q_267.1 2 30) ∧ Int32.toInt (q_267.1 2 30) ≤ 6 := hTq_267.1 2 30
                  have w_272 : Int32.toInt (q_267.1 2 30) = Int32.toInt (q_232.1 2 30) := by rw [eq_267, dui_o (by decide)]
                  have f_273 : 0 ≤ Int32.toInt (q_267.1 2 26) ∧ Int32.toInt (q_267.1 2 26) ≤ 10 := hTq_267.1 2 26
                  have w_274 : Int32.toInt (q_267.1 2 26) = Int32.toInt (q_232.1 2 26) := by rw [eq_267, dui_o (by decide)]
                  exact hk_28 (q_267, (q.1 0 13), (x2_32 + 1), (x3_33 + 2)) (show (TS q_267) ∧ (dFr [2] [6] q_26 q_267) ∧ ((q.1 0 13) = (q.1 0 13)) ∧ (0 ≤ Int32.toInt (x3_33 + 2)) ∧ (Int32.toInt (x3_33 + 2) ≤ 402) ∧ (Int32.toInt (q_267.1 2 30) = Int32.toInt (q_26.1 2 30)) ∧ (Int32.toInt (q_267.1 2 26) = Int32.toInt (q_26.1 2 26)) from ⟨hTq_267, (by rw [eq_267]; exact (((((dFr.rf : dFr [2] [6] q_26 q_26).t a_35 (by decide) (by decide)) : dFr [2] [6] q_26 q_30).t i_235 (by decide) (by decide)) : dFr [2] [6] q_26 q_232).f (by decide)), rfl, by omega, by omega, by omega, by omega⟩) (show (402 - Int32.toInt (x3_33 + 2)).toNat < (402 - Int32.toInt x3_33).toNat by omega)
                · unfold zX10_row_146
                  refine dOk_L (fun q_275 eq_275 => ?_)
                  have w_276 : Int32.toInt (q_232.1 0 6) = Int32.toInt (q_30.1 0 6) := by rw [i_235.2 6 (by decide)]
                  try have t_277 : Int32.toInt (q_232.1 0 6 + 0) = Int32.toInt (q_232.1 0 6) + 0 := ti_add rfl (by decide) (by omega) (by omega)
                  have hTq_275 : TS q_275 := by rw [eq_275]; exact ts_f i_234 (ti_rg _).1 (ti_rg _).2
                  have hFq_275 : dFr [1, 2] [0, 6, 13, 32] q q_275 := by rw [eq_275]; exact hFq_232.f (by decide)
                  try have t_278 : Int32.toInt (x2_32 + 1) = Int32.toInt x2_32 + 1 := ti_add rfl (by decide) (by omega) (by omega)
                  have f_279 : 0 ≤ Int32.toInt (q_275.1 2 30) ∧ Int32.toInt (q_275.1 2 30) ≤ 6 := hTq_275.1 2 30
                  have w_280 : Int32.toInt (q_275.1 2 30) = Int32.toInt (q_232.1 2 30) := by rw [eq_275, dui_o (by decide)]
                  have f_281 : 0 ≤ Int32.toInt (q_275.1 2 26) ∧ Int32.toInt (q_275.1 2 26) ≤ 10 := hTq_275.1 2 26
                  have w_282 : Int32.toInt (q_275.1 2 26) = Int32.toInt (q_232.1 2 26) := by rw [eq_275, dui_o (by decide)]
                  exact hk_28 (q_275, (q.1 0 13), (x2_32 + 1), (x3_33 + 2)) (show (TS q_275) ∧ (dFr [2] [6] q_26 q_275) ∧ ((q.1 0 13) = (q.1 0 13)) ∧ (0 ≤ Int32.toInt (x3_33 + 2)) ∧ (Int32.toInt (x3_33 + 2) ≤ 402) ∧ (Int32.toInt (q_275.1 2 30) = Int32.toInt (q_26.1 2 30)) ∧ (Int32.toInt (q_275.1 2 26) = Int32.toInt (q_26.1 2 26)) from ⟨hTq_275, (by rw [eq_275]; exact (((((dFr.rf : dFr [2] [6] q_26 q_26).t a_35 (by decide) (by decide)) : dFr [2] [6] q_26 q_30).t i_235 (by decide) (by decide)) : dFr [2] [6] q_26 q_232).f (by decide)), rfl, by omega, by omega, by omega, by omega⟩) (show (402 - Int32.toInt (x3_33 + 2)).toNat < (402 - Int32.toInt x3_33).toNat by omega)
          · try have t_283 : Int32.toInt (x3_33 + 1) = Int32.toInt x3_33 + 1 := ti_add rfl (by decide) (by omega) (by omega)
            refine dOk_G (dg_ok (show 0 ≤ Int32.toInt (x3_33 + 1) by omega) (show Int32.toInt (x3_33 + 1) < ((400 : Nat) : Int) by omega)) ?_
            have n_284 : ((Int32.toNatClampNeg (x3_33 + 1) : Nat) : Int) = Int32.toInt (x3_33 + 1) := cl_eq (by omega)
            refine dOk_L (fun v_285 ev_285 => ?_)
            refine dOk_V (ok_isBit v_285) (fun r_286 h_287 => ?_)
            replace h_287 : ((Int32.toInt r_286 = 1 ∧ 0 ≤ Int32.toInt v_285 ∧ Int32.toInt v_285 ≤ 1) ∨ (Int32.toInt r_286 = 0 ∧ (Int32.toInt v_285 < 0 ∨ 1 < Int32.toInt v_285))) := h_287
            have i_288 := h_287
            refine dOk_eq (A := Int32.toInt r_286) (B := 0) rfl (by decide) (fun c_289z c_289 => ?_) (fun c_290z c_290 => ?_)
            · unfold zX10_row_92
              unfold zX10_row_93
              refine dOk_eq (A := 0) (B := 0) (by decide) (by decide) (fun c_292z c_292 => ?_) (fun c_293z c_293 => ?_)
              · unfold zX10_row_118
                refine dOk_eq (A := 0) (B := 0) (by decide) (by decide) (fun c_295z c_295 => ?_) (fun c_296z c_296 => ?_)
                · unfold zX10_row_129
                  refine dOk_eq (A := 0) (B := 0) (by decide) (by decide) (fun c_298z c_298 => ?_) (fun c_299z c_299 => ?_)
                  · unfold zX10_row_146
                    refine dOk_L (fun q_301 eq_301 => ?_)
                    try have t_302 : Int32.toInt (q_30.1 0 6 + 1) = Int32.toInt (q_30.1 0 6) + 1 := ti_add rfl (by decide) (by omega) (by omega)
                    have hTq_301 : TS q_301 := by rw [eq_301]; exact ts_f a_34 (ti_rg _).1 (ti_rg _).2
                    have hFq_301 : dFr [1, 2] [0, 6, 13, 32] q q_301 := by rw [eq_301]; exact hFq_30.f (by decide)
                    try have t_303 : Int32.toInt (x2_32 + 0) = Int32.toInt x2_32 + 0 := ti_add rfl (by decide) (by omega) (by omega)
                    have f_304 : 0 ≤ Int32.toInt (q_301.1 2 30) ∧ Int32.toInt (q_301.1 2 30) ≤ 6 := hTq_301.1 2 30
                    have w_305 : Int32.toInt (q_301.1 2 30) = Int32.toInt (q_30.1 2 30) := by rw [eq_301, dui_o (by decide)]
                    have f_306 : 0 ≤ Int32.toInt (q_301.1 2 26) ∧ Int32.toInt (q_301.1 2 26) ≤ 10 := hTq_301.1 2 26
                    have w_307 : Int32.toInt (q_301.1 2 26) = Int32.toInt (q_30.1 2 26) := by rw [eq_301, dui_o (by decide)]
                    exact hk_28 (q_301, (q.1 0 13), (x2_32 + 0), (x3_33 + 2)) (show (TS q_301) ∧ (dFr [2] [6] q_26 q_301) ∧ ((q.1 0 13) = (q.1 0 13)) ∧ (0 ≤ Int32.toInt (x3_33 + 2)) ∧ (Int32.toInt (x3_33 + 2) ≤ 402) ∧ (Int32.toInt (q_301.1 2 30) = Int32.toInt (q_26.1 2 30)) ∧ (Int32.toInt (q_301.1 2 26) = Int32.toInt (q_26.1 2 26)) from ⟨hTq_301, (by rw [eq_301]; exact (((dFr.rf : dFr [2] [6] q_26 q_26).t a_35 (by decide) (by decide)) : dFr [2] [6] q_26 q_30).f (by decide)), rfl, by omega, by omega, by omega, by omega⟩) (show (402 - Int32.toInt (x3_33 + 2)).toNat < (402 - Int32.toInt x3_33).toNat by omega)
                  · unfold zX10_row_146
                    refine dOk_L (fun q_308 eq_308 => ?_)
                    try have t_309 : Int32.toInt (q_30.1 0 6 + 0) = Int32.toInt (q_30.1 0 6) + 0 := ti_add rfl (by decide) (by omega) (by omega)
                    have hTq_308 : TS q_308 := by rw [eq_308]; exact ts_f a_34 (ti_rg _).1 (ti_rg _).2
                    have hFq_308 : dFr [1, 2] [0, 6, 13, 32] q q_308 := by rw [eq_308]; exact hFq_30.f (by decide)
                    try have t_310 : Int32.toInt (x2_32 + 0) = Int32.toInt x2_32 + 0 := ti_add rfl (by decide) (by omega) (by omega)
                    have f_311 : 0 ≤ Int32.toInt (q_308.1 2 30) ∧ Int32.toInt (q_308.1 2 30) ≤ 6 := hTq_308.1 2 30
                    have w_312 : Int32.toInt (q_308.1 2 30) = Int32.toInt (q_30.1 2 30) := by rw [eq_308, dui_o (by decide)]
                    have f_313 : 0 ≤ Int32.toInt (q_308.1 2 26) ∧ Int32.toInt (q_308.1 2 26) ≤ 10 := hTq_308.1 2 26
                    have w_314 : Int32.toInt (q_308.1 2 26) = Int32.toInt (q_30.1 2 26) := by rw [eq_308, dui_o (by decide)]
                    exact hk_28 (q_308, (q.1 0 13), (x2_32 + 0), (x3_33 + 2)) (show (TS q_308) ∧ (dFr [2] [6] q_26 q_308) ∧ ((q.1 0 13) = (q.1 0 13)) ∧ (0 ≤ Int32.toInt (x3_33 + 2)) ∧ (Int32.toInt (x3_33 + 2) ≤ 402) ∧ (Int32.toInt (q_308.1 2 30) = Int32.toInt (q_26.1 2 30)) ∧ (Int32.toInt (q_308.1 2 26) = Int32.toInt (q_26.1 2 26)) from ⟨hTq_308, (by rw [eq_308]; exact (((dFr.rf : dFr [2] [6] q_26 q_26).t a_35 (by decide) (by decide)) : dFr [2] [6] q_26 q_30).f (by decide)), rfl, by omega, by omega, by omega, by omega⟩) (show (402 - Int32.toInt (x3_33 + 2)).toNat < (402 - Int32.toInt x3_33).toNat by omega)
                · unfold zX10_row_129
                  refine dOk_eq (A := 0) (B := 0) (by decide) (by decide) (fun c_315z c_315 => ?_) (fun c_316z c_316 => ?_)
                  · unfold zX10_row_146
                    refine dOk_L (fun q_318 eq_318 => ?_)
                    try have t_319 : Int32.toInt (q_30.1 0 6 + 1) = Int32.toInt (q_30.1 0 6) + 1 := ti_add rfl (by decide) (by omega) (by omega)
                    have hTq_318 : TS q_318 := by rw [eq_318]; exact ts_f a_34 (ti_rg _).1 (ti_rg _).2
                    have hFq_318 : dFr [1, 2] [0, 6, 13, 32] q q_318 := by rw [eq_318]; exact hFq_30.f (by decide)
                    try have t_320 : Int32.toInt (x2_32 + 1) = Int32.toInt x2_32 + 1 := ti_add rfl (by decide) (by omega) (by omega)
                    have f_321 : 0 ≤ Int32.toInt (q_318.1 2 30) ∧ Int32.toInt (q_318.1 2 30) ≤ 6 := hTq_318.1 2 30
                    have w_322 : Int32.toInt (q_318.1 2 30) = Int32.toInt (q_30.1 2 30) := by rw [eq_318, dui_o (by decide)]
                    have f_323 : 0 ≤ Int32.toInt (q_318.1 2 26) ∧ Int32.toInt (q_318.1 2 26) ≤ 10 := hTq_318.1 2 26
                    have w_324 : Int32.toInt (q_318.1 2 26) = Int32.toInt (q_30.1 2 26) := by rw [eq_318, dui_o (by decide)]
                    exact hk_28 (q_318, (q.1 0 13), (x2_32 + 1), (x3_33 + 2)) (show (TS q_318) ∧ (dFr [2] [6] q_26 q_318) ∧ ((q.1 0 13) = (q.1 0 13)) ∧ (0 ≤ Int32.toInt (x3_33 + 2)) ∧ (Int32.toInt (x3_33 + 2) ≤ 402) ∧ (Int32.toInt (q_318.1 2 30) = Int32.toInt (q_26.1 2 30)) ∧ (Int32.toInt (q_318.1 2 26) = Int32.toInt (q_26.1 2 26)) from ⟨hTq_318, (by rw [eq_318]; exact (((dFr.rf : dFr [2] [6] q_26 q_26).t a_35 (by decide) (by decide)) : dFr [2] [6] q_26 q_30).f (by decide)), rfl, by omega, by omega, by omega, by omega⟩) (show (402 - Int32.toInt (x3_33 + 2)).toNat < (402 - Int32.toInt x3_33).toNat by omega)
                  · unfold zX10_row_146
                    refine dOk_L (fun q_325 eq_325 => ?_)
                    try have t_326 : Int32.toInt (q_30.1 0 6 + 0) = Int32.toInt (q_30.1 0 6) + 0 := ti_add rfl (by decide) (by omega) (by omega)
                    have hTq_325 : TS q_325 := by rw [eq_325]; exact ts_f a_34 (ti_rg _).1 (ti_rg _).2
                    have hFq_325 : dFr [1, 2] [0, 6, 13, 32] q q_325 := by rw [eq_325]; exact hFq_30.f (by decide)
                    try have t_327 : Int32.toInt (x2_32 + 1) = Int32.toInt x2_32 + 1 := ti_add rfl (by decide) (by omega) (by omega)
                    have f_328 : 0 ≤ Int32.toInt (q_325.1 2 30) ∧ Int32.toInt (q_325.1 2 30) ≤ 6 := hTq_325.1 2 30
                    have w_329 : Int32.toInt (q_325.1 2 30) = Int32.toInt (q_30.1 2 30) := by rw [eq_325, dui_o (by decide)]
                    have f_330 : 0 ≤ Int32.toInt (q_325.1 2 26) ∧ Int32.toInt (q_325.1 2 26) ≤ 10 := hTq_325.1 2 26
                    have w_331 : Int32.toInt (q_325.1 2 26) = Int32.toInt (q_30.1 2 26) := by rw [eq_325, dui_o (by decide)]
                    exact hk_28 (q_325, (q.1 0 13), (x2_32 + 1), (x3_33 + 2)) (show (TS q_325) ∧ (dFr [2] [6] q_26 q_325) ∧ ((q.1 0 13) = (q.1 0 13)) ∧ (0 ≤ Int32.toInt (x3_33 + 2)) ∧ (Int32.toInt (x3_33 + 2) ≤ 402) ∧ (Int32.toInt (q_325.1 2 30) = Int32.toInt (q_26.1 2 30)) ∧ (Int32.toInt (q_325.1 2 26) = Int32.toInt (q_26.1 2 26)) from ⟨hTq_325, (by rw [eq_325]; exact (((dFr.rf : dFr [2] [6] q_26 q_26).t a_35 (by decide) (by decide)) : dFr [2] [6] q_26 q_30).f (by decide)), rfl, by omega, by omega, by omega, by omega⟩) (show (402 - Int32.toInt (x3_33 + 2)).toNat < (402 - Int32.toInt x3_33).toNat by omega)
              · refine dOk_G (dg_ok (show 0 ≤ Int32.toInt x3_33 by omega) (show Int32.toInt x3_33 < ((400 : Nat) : Int) by omega)) ?_
                refine dOk_L (fun v_332 ev_332 => ?_)
                have w_333 : Int32.toInt v_332 = Int32.toInt v_180 := by rw [ev_332, ev_180]
                refine dOk_G (dg_ok (show 0 ≤ Int32.toInt (x3_33 + 1) by omega) (show Int32.toInt (x3_33 + 1) < ((400 : Nat) : Int) by omega)) ?_
                refine dOk_L (fun v_334 ev_334 => ?_)
                have w_335 : Int32.toInt v_334 = Int32.toInt v_285 := by rw [ev_334, ev_285]
                refine dOk_V (ok_adds q_30 v_332 v_334 a_34 (show Int32.toInt (q_30.1 2 29) < 6 by omega) (show 0 ≤ Int32.toInt v_332 ∧ Int32.toInt v_332 ≤ 5 by omega) (show 0 ≤ Int32.toInt v_334 ∧ Int32.toInt v_334 ≤ 1 by omega)) (fun q_336 h_337 => ?_)
                replace h_337 : (TS q_336) ∧ (dFr [2] [] q_30 q_336) ∧ (Int32.toInt (q_336.1 2 29) = Int32.toInt (q_30.1 2 29) + 1) ∧ (Int32.toInt (q_336.1 2 30) = Int32.toInt (q_30.1 2 30)) ∧ (Int32.toInt (q_336.1 2 26) = Int32.toInt (q_30.1 2 26)) := h_337
                obtain ⟨i_338, i_339, i_340, i_341, i_342⟩ := h_337
                have hFq_336 : dFr [1, 2] [0, 6, 13, 32] q q_336 := hFq_30.t i_339 (by decide) (by decide)
                have f_343 : 0 ≤ Int32.toInt (q_336.1 2 29) ∧ Int32.toInt (q_336.1 2 29) ≤ 6 := i_338.1 2 29
                have f_344 : 0 ≤ Int32.toInt (q_336.1 2 30) ∧ Int32.toInt (q_336.1 2 30) ≤ 6 := i_338.1 2 30
                have f_345 : 0 ≤ Int32.toInt (q_336.1 2 26) ∧ Int32.toInt (q_336.1 2 26) ≤ 10 := i_338.1 2 26
                unfold zX10_row_118
                refine dOk_eq (A := 0) (B := 0) (by decide) (by decide) (fun c_346z c_346 => ?_) (fun c_347z c_347 => ?_)
                · unfold zX10_row_129
                  refine dOk_eq (A := 0) (B := 0) (by decide) (by decide) (fun c_349z c_349 => ?_) (fun c_350z c_350 => ?_)
                  · unfold zX10_row_146
                    refine dOk_L (fun q_352 eq_352 => ?_)
                    have w_353 : Int32.toInt (q_336.1 0 6) = Int32.toInt (q_30.1 0 6) := by rw [i_339.2 6 (by decide)]
                    try have t_354 : Int32.toInt (q_336.1 0 6 + 1) = Int32.toInt (q_336.1 0 6) + 1 := ti_add rfl (by decide) (by omega) (by omega)
                    have hTq_352 : TS q_352 := by rw [eq_352]; exact ts_f i_338 (ti_rg _).1 (ti_rg _).2
                    have hFq_352 : dFr [1, 2] [0, 6, 13, 32] q q_352 := by rw [eq_352]; exact hFq_336.f (by decide)
                    try have t_355 : Int32.toInt (x2_32 + 0) = Int32.toInt x2_32 + 0 := ti_add rfl (by decide) (by omega) (by omega)
                    have f_356 : 0 ≤ Int32.toInt (q_352.1 2 30) ∧ Int32.toInt (q_352.1 2 30) ≤ 6 := hTq_352.1 2 30
                    have w_357 : Int32.toInt (q_352.1 2 30) = Int32.toInt (q_336.1 2 30) := by rw [eq_352, dui_o (by decide)]
                    have f_358 : 0 ≤ Int32.toInt (q_352.1 2 26) ∧ Int32.toInt (q_352.1 2 26) ≤ 10 := hTq_352.1 2 26
                    have w_359 : Int32.toInt (q_352.1 2 26) = Int32.toInt (q_336.1 2 26) := by rw [eq_352, dui_o (by decide)]
                    exact hk_28 (q_352, (q.1 0 13), (x2_32 + 0), (x3_33 + 2)) (show (TS q_352) ∧ (dFr [2] [6] q_26 q_352) ∧ ((q.1 0 13) = (q.1 0 13)) ∧ (0 ≤ Int32.toInt (x3_33 + 2)) ∧ (Int32.toInt (x3_33 + 2) ≤ 402) ∧ (Int32.toInt (q_352.1 2 30) = Int32.toInt (q_26.1 2 30)) ∧ (Int32.toInt (q_352.1 2 26) = Int32.toInt (q_26.1 2 26)) from ⟨hTq_352, (by rw [eq_352]; exact (((((dFr.rf : dFr [2] [6] q_26 q_26).t a_35 (by decide) (by decide)) : dFr [2] [6] q_26 q_30).t i_339 (by decide) (by decide)) : dFr [2] [6] q_26 q_336).f (by decide)), rfl, by omega, by omega, by omega, by omega⟩) (show (402 - Int32.toInt (x3_33 + 2)).toNat < (402 - Int32.toInt x3_33).toNat by omega)
                  · unfold zX10_row_146
                    refine dOk_L (fun q_360 eq_360 => ?_)
                    have w_361 : Int32.toInt (q_336.1 0 6) = Int32.toInt (q_30.1 0 6) := by rw [i_339.2 6 (by decide)]
                    try have t_362 : Int32.toInt (q_336.1 0 6 + 0) = Int32.toInt (q_336.1 0 6) + 0 := ti_add rfl (by decide) (by omega) (by omega)
                    have hTq_360 : TS q_360 := by rw [eq_360]; exact ts_f i_338 (ti_rg _).1 (ti_rg _).2
                    have hFq_360 : dFr [1, 2] [0, 6, 13, 32] q q_360 := by rw [eq_360]; exact hFq_336.f (by decide)
                    try have t_363 : Int32.toInt (x2_32 + 0) = Int32.toInt x2_32 + 0 := ti_add rfl (by decide) (by omega) (by omega)
                    have f_364 : 0 ≤ Int32.toInt (q_360.1 2 30) ∧ Int32.toInt (q_360.1 2 30) ≤ 6 := hTq_360.1 2 30
                    have w_365 : Int32.toInt (q_360.1 2 30) = Int32.toInt (q_336.1 2 30) := by rw [eq_360, dui_o (by decide)]
                    have f_366 : 0 ≤ Int32.toInt (q_360.1 2 26) ∧ Int32.toInt (q_360.1 2 26) ≤ 10 := hTq_360.1 2 26
                    have w_367 : Int32.toInt (q_360.1 2 26) = Int32.toInt (q_336.1 2 26) := by rw [eq_360, dui_o (by decide)]
                    exact hk_28 (q_360, (q.1 0 13), (x2_32 + 0), (x3_33 + 2)) (show (TS q_360) ∧ (dFr [2] [6] q_26 q_360) ∧ ((q.1 0 13) = (q.1 0 13)) ∧ (0 ≤ Int32.toInt (x3_33 + 2)) ∧ (Int32.toInt (x3_33 + 2) ≤ 402) ∧ (Int32.toInt (q_360.1 2 30) = Int32.toInt (q_26.1 2 30)) ∧ (Int32.toInt (q_360.1 2 26) = Int32.toInt (q_26.1 2 26)) from ⟨hTq_360, (by rw [eq_360]; exact (((((dFr.rf : dFr [2] [6] q_26 q_26).t a_35 (by decide) (by decide)) : dFr [2] [6] q_26 q_30).t i_339 (by decide) (by decide)) : dFr [2] [6] q_26 q_336).f (by decide)), rfl, by omega, by omega, by omega, by omega⟩) (show (402 - Int32.toInt (x3_33 + 2)).toNat < (402 - Int32.toInt x3_33).toNat by omega)
                · unfold zX10_row_129
                  refine dOk_eq (A := 0) (B := 0) (by decide) (by decide) (fun c_368z c_368 => ?_) (fun c_369z c_369 => ?_)
                  · unfold zX10_row_146
                    refine dOk_L (fun q_371 eq_371 => ?_)
                    have w_372 : Int32.toInt (q_336.1 0 6) = Int32.toInt (q_30.1 0 6) := by rw [i_339.2 6 (by decide)]
                    try have t_373 : Int32.toInt (q_336.1 0 6 + 1) = Int32.toInt (q_336.1 0 6) + 1 := ti_add rfl (by decide) (by omega) (by omega)
                    have hTq_371 : TS q_371 := by rw [eq_371]; exact ts_f i_338 (ti_rg _).1 (ti_rg _).2
                    have hFq_371 : dFr [1, 2] [0, 6, 13, 32] q q_371 := by rw [eq_371]; exact hFq_336.f (by decide)
                    try have t_374 : Int32.toInt (x2_32 + 1) = Int32.toInt x2_32 + 1 := ti_add rfl (by decide) (by omega) (by omega)
                    have f_375 : 0 ≤ Int32.toInt (q_371.1 2 30) ∧ Int32.toInt (q_371.1 2 30) ≤ 6 := hTq_371.1 2 30
                    have w_376 : Int32.toInt (q_371.1 2 30) = Int32.toInt (q_336.1 2 30) := by rw [eq_371, dui_o (by decide)]
                    have f_377 : 0 ≤ Int32.toInt (q_371.1 2 26) ∧ Int32.toInt (q_371.1 2 26) ≤ 10 := hTq_371.1 2 26
                    have w_378 : Int32.toInt (q_371.1 2 26) = Int32.toInt (q_336.1 2 26) := by rw [eq_371, dui_o (by decide)]
                    exact hk_28 (q_371, (q.1 0 13), (x2_32 + 1), (x3_33 + 2)) (show (TS q_371) ∧ (dFr [2] [6] q_26 q_371) ∧ ((q.1 0 13) = (q.1 0 13)) ∧ (0 ≤ Int32.toInt (x3_33 + 2)) ∧ (Int32.toInt (x3_33 + 2) ≤ 402) ∧ (Int32.toInt (q_371.1 2 30) = Int32.toInt (q_26.1 2 30)) ∧ (Int32.toInt (q_371.1 2 26) = Int32.toInt (q_26.1 2 26)) from ⟨hTq_371, (by rw [eq_371]; exact (((((dFr.rf : dFr [2] [6] q_26 q_26).t a_35 (by decide) (by decide)) : dFr [2] [6] q_26 q_30).t i_339 (by decide) (by decide)) : dFr [2] [6] q_26 q_336).f (by decide)), rfl, by omega, by omega, by omega, by omega⟩) (show (402 - Int32.toInt (x3_33 + 2)).toNat < (402 - Int32.toInt x3_33).toNat by omega)
                  · unfold zX10_row_146
                    refine dOk_L (fun q_379 eq_379 => ?_)
                    have w_380 : Int32.toInt (q_336.1 0 6) = Int32.toInt (q_30.1 0 6) := by rw [i_339.2 6 (by decide)]
                    try have t_381 : Int32.toInt (q_336.1 0 6 + 0) = Int32.toInt (q_336.1 0 6) + 0 := ti_add rfl (by decide) (by omega) (by omega)
                    have hTq_379 : TS q_379 := by rw [eq_379]; exact ts_f i_338 (ti_rg _).1 (ti_rg _).2
                    have hFq_379 : dFr [1, 2] [0, 6, 13, 32] q q_379 := by rw [eq_379]; exact hFq_336.f (by decide)
                    try have t_382 : Int32.toInt (x2_32 + 1) = Int32.toInt x2_32 + 1 := ti_add rfl (by decide) (by omega) (by omega)
                    have f_383 : 0 ≤ Int32.toInt (q_379.1 2 30) ∧ Int32.toInt (q_379.1 2 30) ≤ 6 := hTq_379.1 2 30
                    have w_384 : Int32.toInt (q_379.1 2 30) = Int32.toInt (q_336.1 2 30) := by rw [eq_379, dui_o (by decide)]
                    have f_385 : 0 ≤ Int32.toInt (q_379.1 2 26) ∧ Int32.toInt (q_379.1 2 26) ≤ 10 := hTq_379.1 2 26
                    have w_386 : Int32.toInt (q_379.1 2 26) = Int32.toInt (q_336.1 2 26) := by rw [eq_379, dui_o (by decide)]
                    exact hk_28 (q_379, (q.1 0 13), (x2_32 + 1), (x3_33 + 2)) (show (TS q_379) ∧ (dFr [2] [6] q_26 q_379) ∧ ((q.1 0 13) = (q.1 0 13)) ∧ (0 ≤ Int32.toInt (x3_33 + 2)) ∧ (Int32.toInt (x3_33 + 2) ≤ 402) ∧ (Int32.toInt (q_379.1 2 30) = Int32.toInt (q_26.1 2 30)) ∧ (Int32.toInt (q_379.1 2 26) = Int32.toInt (q_26.1 2 26)) from ⟨hTq_379, (by rw [eq_379]; exact (((((dFr.rf : dFr [2] [6] q_26 q_26).t a_35 (by decide) (by decide)) : dFr [2] [6] q_26 q_30).t i_339 (by decide) (by decide)) : dFr [2] [6] q_26 q_336).f (by decide)), rfl, by omega, by omega, by omega, by omega⟩) (show (402 - Int32.toInt (x3_33 + 2)).toNat < (402 - Int32.toInt x3_33).toNat by omega)
            · refine dOk_G (dg_ok (show 0 ≤ Int32.toInt x3_33 by omega) (show Int32.toInt x3_33 < ((400 : Nat) : Int) by omega)) ?_
              refine dOk_L (fun v_387 ev_387 => ?_)
              have w_388 : Int32.toInt v_387 = Int32.toInt v_180 := by rw [ev_387, ev_180]
              refine dOk_B (ok_placeOf q_30 v_387 a_34) (fun r_389 q_390 h_391 => ?_)
              replace h_391 : (q_390 = q_30) ∧ (-1 ≤ Int32.toInt r_389 ∧ Int32.toInt r_389 ≤ 5) := h_391
              obtain ⟨i_392, i_393⟩ := h_391
              subst q_390
              refine dOk_eq (A := Int32.toInt r_389) (B := (-1)) rfl (by decide) (fun c_394z c_394 => ?_) (fun c_395z c_395 => ?_)
              · unfold zX10_row_93
                refine dOk_eq (A := 1) (B := 0) (by decide) (by decide) (fun c_397z c_397 => ?_) (fun c_398z c_398 => ?_)
                · unfold zX10_row_118
                  refine dOk_eq (A := 1) (B := 0) (by decide) (by decide) (fun c_400z c_400 => ?_) (fun c_401z c_401 => ?_)
                  · unfold zX10_row_129
                    refine dOk_eq (A := 1) (B := 0) (by decide) (by decide) (fun c_403z c_403 => ?_) (fun c_404z c_404 => ?_)
                    · unfold zX10_row_146
                      refine dOk_L (fun q_406 eq_406 => ?_)
                      try have t_407 : Int32.toInt (q_30.1 0 6 + 1) = Int32.toInt (q_30.1 0 6) + 1 := ti_add rfl (by decide) (by omega) (by omega)
                      have hTq_406 : TS q_406 := by rw [eq_406]; exact ts_f a_34 (ti_rg _).1 (ti_rg _).2
                      have hFq_406 : dFr [1, 2] [0, 6, 13, 32] q q_406 := by rw [eq_406]; exact hFq_30.f (by decide)
                      try have t_408 : Int32.toInt (x2_32 + 0) = Int32.toInt x2_32 + 0 := ti_add rfl (by decide) (by omega) (by omega)
                      have f_409 : 0 ≤ Int32.toInt (q_406.1 2 30) ∧ Int32.toInt (q_406.1 2 30) ≤ 6 := hTq_406.1 2 30
                      have w_410 : Int32.toInt (q_406.1 2 30) = Int32.toInt (q_30.1 2 30) := by rw [eq_406, dui_o (by decide)]
                      have f_411 : 0 ≤ Int32.toInt (q_406.1 2 26) ∧ Int32.toInt (q_406.1 2 26) ≤ 10 := hTq_406.1 2 26
                      have w_412 : Int32.toInt (q_406.1 2 26) = Int32.toInt (q_30.1 2 26) := by rw [eq_406, dui_o (by decide)]
                      exact hk_28 (q_406, (q.1 0 13), (x2_32 + 0), (x3_33 + 2)) (show (TS q_406) ∧ (dFr [2] [6] q_26 q_406) ∧ ((q.1 0 13) = (q.1 0 13)) ∧ (0 ≤ Int32.toInt (x3_33 + 2)) ∧ (Int32.toInt (x3_33 + 2) ≤ 402) ∧ (Int32.toInt (q_406.1 2 30) = Int32.toInt (q_26.1 2 30)) ∧ (Int32.toInt (q_406.1 2 26) = Int32.toInt (q_26.1 2 26)) from ⟨hTq_406, (by rw [eq_406]; exact (((dFr.rf : dFr [2] [6] q_26 q_26).t a_35 (by decide) (by decide)) : dFr [2] [6] q_26 q_30).f (by decide)), rfl, by omega, by omega, by omega, by omega⟩) (show (402 - Int32.toInt (x3_33 + 2)).toNat < (402 - Int32.toInt x3_33).toNat by omega)
                    · unfold zX10_row_146
                      refine dOk_L (fun q_413 eq_413 => ?_)
                      try have t_414 : Int32.toInt (q_30.1 0 6 + 0) = Int32.toInt (q_30.1 0 6) + 0 := ti_add rfl (by decide) (by omega) (by omega)
                      have hTq_413 : TS q_413 := by rw [eq_413]; exact ts_f a_34 (ti_rg _).1 (ti_rg _).2
                      have hFq_413 : dFr [1, 2] [0, 6, 13, 32] q q_413 := by rw [eq_413]; exact hFq_30.f (by decide)
                      try have t_415 : Int32.toInt (x2_32 + 0) = Int32.toInt x2_32 + 0 := ti_add rfl (by decide) (by omega) (by omega)
                      have f_416 : 0 ≤ Int32.toInt (q_413.1 2 30) ∧ Int32.toInt (q_413.1 2 30) ≤ 6 := hTq_413.1 2 30
                      have w_417 : Int32.toInt (q_413.1 2 30) = Int32.toInt (q_30.1 2 30) := by rw [eq_413, dui_o (by decide)]
                      have f_418 : 0 ≤ Int32.toInt (q_413.1 2 26) ∧ Int32.toInt (q_413.1 2 26) ≤ 10 := hTq_413.1 2 26
                      have w_419 : Int32.toInt (q_413.1 2 26) = Int32.toInt (q_30.1 2 26) := by rw [eq_413, dui_o (by decide)]
                      exact hk_28 (q_413, (q.1 0 13), (x2_32 + 0), (x3_33 + 2)) (show (TS q_413) ∧ (dFr [2] [6] q_26 q_413) ∧ ((q.1 0 13) = (q.1 0 13)) ∧ (0 ≤ Int32.toInt (x3_33 + 2)) ∧ (Int32.toInt (x3_33 + 2) ≤ 402) ∧ (Int32.toInt (q_413.1 2 30) = Int32.toInt (q_26.1 2 30)) ∧ (Int32.toInt (q_413.1 2 26) = Int32.toInt (q_26.1 2 26)) from ⟨hTq_413, (by rw [eq_413]; exact (((dFr.rf : dFr [2] [6] q_26 q_26).t a_35 (by decide) (by decide)) : dFr [2] [6] q_26 q_30).f (by decide)), rfl, by omega, by omega, by omega, by omega⟩) (show (402 - Int32.toInt (x3_33 + 2)).toNat < (402 - Int32.toInt x3_33).toNat by omega)
                  · unfold zX10_row_129
                    refine dOk_eq (A := 1) (B := 0) (by decide) (by decide) (fun c_420z c_420 => ?_) (fun c_421z c_421 => ?_)
                    · unfold zX10_row_146
                      refine dOk_L (fun q_423 eq_423 => ?_)
                      try have t_424 : Int32.toInt (q_30.1 0 6 + 1) = Int32.toInt (q_30.1 0 6) + 1 := ti_add rfl (by decide) (by omega) (by omega)
                      have hTq_423 : TS q_423 := by rw [eq_423]; exact ts_f a_34 (ti_rg _).1 (ti_rg _).2
                      have hFq_423 : dFr [1, 2] [0, 6, 13, 32] q q_423 := by rw [eq_423]; exact hFq_30.f (by decide)
                      try have t_425 : Int32.toInt (x2_32 + 1) = Int32.toInt x2_32 + 1 := ti_add rfl (by decide) (by omega) (by omega)
                      have f_426 : 0 ≤ Int32.toInt (q_423.1 2 30) ∧ Int32.toInt (q_423.1 2 30) ≤ 6 := hTq_423.1 2 30
                      have w_427 : Int32.toInt (q_423.1 2 30) = Int32.toInt (q_30.1 2 30) := by rw [eq_423, dui_o (by decide)]
                      have f_428 : 0 ≤ Int32.toInt (q_423.1 2 26) ∧ Int32.toInt (q_423.1 2 26) ≤ 10 := hTq_423.1 2 26
                      have w_429 : Int32.toInt (q_423.1 2 26) = Int32.toInt (q_30.1 2 26) := by rw [eq_423, dui_o (by decide)]
                      exact hk_28 (q_423, (q.1 0 13), (x2_32 + 1), (x3_33 + 2)) (show (TS q_423) ∧ (dFr [2] [6] q_26 q_423) ∧ ((q.1 0 13) = (q.1 0 13)) ∧ (0 ≤ Int32.toInt (x3_33 + 2)) ∧ (Int32.toInt (x3_33 + 2) ≤ 402) ∧ (Int32.toInt (q_423.1 2 30) = Int32.toInt (q_26.1 2 30)) ∧ (Int32.toInt (q_423.1 2 26) = Int32.toInt (q_26.1 2 26)) from ⟨hTq_423, (by rw [eq_423]; exact (((dFr.rf : dFr [2] [6] q_26 q_26).t a_35 (by decide) (by decide)) : dFr [2] [6] q_26 q_30).f (by decide)), rfl, by omega, by omega, by omega, by omega⟩) (show (402 - Int32.toInt (x3_33 + 2)).toNat < (402 - Int32.toInt x3_33).toNat by omega)
                    · unfold zX10_row_146
                      refine dOk_L (fun q_430 eq_430 => ?_)
                      try have t_431 : Int32.toInt (q_30.1 0 6 + 0) = Int32.toInt (q_30.1 0 6) + 0 := ti_add rfl (by decide) (by omega) (by omega)
                      have hTq_430 : TS q_430 := by rw [eq_430]; exact ts_f a_34 (ti_rg _).1 (ti_rg _).2
                      have hFq_430 : dFr [1, 2] [0, 6, 13, 32] q q_430 := by rw [eq_430]; exact hFq_30.f (by decide)
                      try have t_432 : Int32.toInt (x2_32 + 1) = Int32.toInt x2_32 + 1 := ti_add rfl (by decide) (by omega) (by omega)
                      have f_433 : 0 ≤ Int32.toInt (q_430.1 2 30) ∧ Int32.toInt (q_430.1 2 30) ≤ 6 := hTq_430.1 2 30
                      have w_434 : Int32.toInt (q_430.1 2 30) = Int32.toInt (q_30.1 2 30) := by rw [eq_430, dui_o (by decide)]
                      have f_435 : 0 ≤ Int32.toInt (q_430.1 2 26) ∧ Int32.toInt (q_430.1 2 26) ≤ 10 := hTq_430.1 2 26
                      have w_436 : Int32.toInt (q_430.1 2 26) = Int32.toInt (q_30.1 2 26) := by rw [eq_430, dui_o (by decide)]
                      exact hk_28 (q_430, (q.1 0 13), (x2_32 + 1), (x3_33 + 2)) (show (TS q_430) ∧ (dFr [2] [6] q_26 q_430) ∧ ((q.1 0 13) = (q.1 0 13)) ∧ (0 ≤ Int32.toInt (x3_33 + 2)) ∧ (Int32.toInt (x3_33 + 2) ≤ 402) ∧ (Int32.toInt (q_430.1 2 30) = Int32.toInt (q_26.1 2 30)) ∧ (Int32.toInt (q_430.1 2 26) = Int32.toInt (q_26.1 2 26)) from ⟨hTq_430, (by rw [eq_430]; exact (((dFr.rf : dFr [2] [6] q_26 q_26).t a_35 (by decide) (by decide)) : dFr [2] [6] q_26 q_30).f (by decide)), rfl, by omega, by omega, by omega, by omega⟩) (show (402 - Int32.toInt (x3_33 + 2)).toNat < (402 - Int32.toInt x3_33).toNat by omega)
                · refine dOk_G (dg_ok (show 0 ≤ Int32.toInt x3_33 by omega) (show Int32.toInt x3_33 < ((400 : Nat) : Int) by omega)) ?_
                  refine dOk_L (fun v_437 ev_437 => ?_)
                  have w_438 : Int32.toInt v_437 = Int32.toInt v_180 := by rw [ev_437, ev_180]
                  refine dOk_G (dg_ok (show 0 ≤ Int32.toInt (x3_33 + 1) by omega) (show Int32.toInt (x3_33 + 1) < ((400 : Nat) : Int) by omega)) ?_
                  refine dOk_L (fun v_439 ev_439 => ?_)
                  have w_440 : Int32.toInt v_439 = Int32.toInt v_285 := by rw [ev_439, ev_285]
                  refine dOk_V (ok_adds q_30 v_437 v_439 a_34 (show Int32.toInt (q_30.1 2 29) < 6 by omega) (show 0 ≤ Int32.toInt v_437 ∧ Int32.toInt v_437 ≤ 5 by omega) (show 0 ≤ Int32.toInt v_439 ∧ Int32.toInt v_439 ≤ 1 by omega)) (fun q_441 h_442 => ?_)
                  replace h_442 : (TS q_441) ∧ (dFr [2] [] q_30 q_441) ∧ (Int32.toInt (q_441.1 2 29) = Int32.toInt (q_30.1 2 29) + 1) ∧ (Int32.toInt (q_441.1 2 30) = Int32.toInt (q_30.1 2 30)) ∧ (Int32.toInt (q_441.1 2 26) = Int32.toInt (q_30.1 2 26)) := h_442
                  obtain ⟨i_443, i_444, i_445, i_446, i_447⟩ := h_442
                  have hFq_441 : dFr [1, 2] [0, 6, 13, 32] q q_441 := hFq_30.t i_444 (by decide) (by decide)
                  have f_448 : 0 ≤ Int32.toInt (q_441.1 2 29) ∧ Int32.toInt (q_441.1 2 29) ≤ 6 := i_443.1 2 29
                  have f_449 : 0 ≤ Int32.toInt (q_441.1 2 30) ∧ Int32.toInt (q_441.1 2 30) ≤ 6 := i_443.1 2 30
                  have f_450 : 0 ≤ Int32.toInt (q_441.1 2 26) ∧ Int32.toInt (q_441.1 2 26) ≤ 10 := i_443.1 2 26
                  unfold zX10_row_118
                  refine dOk_eq (A := 1) (B := 0) (by decide) (by decide) (fun c_451z c_451 => ?_) (fun c_452z c_452 => ?_)
                  · unfold zX10_row_129
                    refine dOk_eq (A := 1) (B := 0) (by decide) (by decide) (fun c_454z c_454 => ?_) (fun c_455z c_455 => ?_)
                    · unfold zX10_row_146
                      refine dOk_L (fun q_457 eq_457 => ?_)
                      have w_458 : Int32.toInt (q_441.1 0 6) = Int32.toInt (q_30.1 0 6) := by rw [i_444.2 6 (by decide)]
                      try have t_459 : Int32.toInt (q_441.1 0 6 + 1) = Int32.toInt (q_441.1 0 6) + 1 := ti_add rfl (by decide) (by omega) (by omega)
                      have hTq_457 : TS q_457 := by rw [eq_457]; exact ts_f i_443 (ti_rg _).1 (ti_rg _).2
                      have hFq_457 : dFr [1, 2] [0, 6, 13, 32] q q_457 := by rw [eq_457]; exact hFq_441.f (by decide)
                      try have t_460 : Int32.toInt (x2_32 + 0) = Int32.toInt x2_32 + 0 := ti_add rfl (by decide) (by omega) (by omega)
                      have f_461 : 0 ≤ Int32.toInt (q_457.1 2 30) ∧ Int32.toInt (q_457.1 2 30) ≤ 6 := hTq_457.1 2 30
                      have w_462 : Int32.toInt (q_457.1 2 30) = Int32.toInt (q_441.1 2 30) := by rw [eq_457, dui_o (by decide)]
                      have f_463 : 0 ≤ Int32.toInt (q_457.1 2 26) ∧ Int32.toInt (q_457.1 2 26) ≤ 10 := hTq_457.1 2 26
                      have w_464 : Int32.toInt (q_457.1 2 26) = Int32.toInt (q_441.1 2 26) := by rw [eq_457, dui_o (by decide)]
                      exact hk_28 (q_457, (q.1 0 13), (x2_32 + 0), (x3_33 + 2)) (show (TS q_457) ∧ (dFr [2] [6] q_26 q_457) ∧ ((q.1 0 13) = (q.1 0 13)) ∧ (0 ≤ Int32.toInt (x3_33 + 2)) ∧ (Int32.toInt (x3_33 + 2) ≤ 402) ∧ (Int32.toInt (q_457.1 2 30) = Int32.toInt (q_26.1 2 30)) ∧ (Int32.toInt (q_457.1 2 26) = Int32.toInt (q_26.1 2 26)) from ⟨hTq_457, (by rw [eq_457]; exact (((((dFr.rf : dFr [2] [6] q_26 q_26).t a_35 (by decide) (by decide)) : dFr [2] [6] q_26 q_30).t i_444 (by decide) (by decide)) : dFr [2] [6] q_26 q_441).f (by decide)), rfl, by omega, by omega, by omega, by omega⟩) (show (402 - Int32.toInt (x3_33 + 2)).toNat < (402 - Int32.toInt x3_33).toNat by omega)
                    · unfold zX10_row_146
                      refine dOk_L (fun q_465 eq_465 => ?_)
                      have w_466 : Int32.toInt (q_441.1 0 6) = Int32.toInt (q_30.1 0 6) := by rw [i_444.2 6 (by decide)]
                      try have t_467 : Int32.toInt (q_441.1 0 6 + 0) = Int32.toInt (q_441.1 0 6) + 0 := ti_add rfl (by decide) (by omega) (by omega)
                      have hTq_465 : TS q_465 := by rw [eq_465]; exact ts_f i_443 (ti_rg _).1 (ti_rg _).2
                      have hFq_465 : dFr [1, 2] [0, 6, 13, 32] q q_465 := by rw [eq_465]; exact hFq_441.f (by decide)
                      try have t_468 : Int32.toInt (x2_32 + 0) = Int32.toInt x2_32 + 0 := ti_add rfl (by decide) (by omega) (by omega)
                      have f_469 : 0 ≤ Int32.toInt (q_465.1 2 30) ∧ Int32.toInt (q_465.1 2 30) ≤ 6 := hTq_465.1 2 30
                      have w_470 : Int32.toInt (q_465.1 2 30) = Int32.toInt (q_441.1 2 30) := by rw [eq_465, dui_o (by decide)]
                      have f_471 : 0 ≤ Int32.toInt (q_465.1 2 26) ∧ Int32.toInt (q_465.1 2 26) ≤ 10 := hTq_465.1 2 26
                      have w_472 : Int32.toInt (q_465.1 2 26) = Int32.toInt (q_441.1 2 26) := by rw [eq_465, dui_o (by decide)]
                      exact hk_28 (q_465, (q.1 0 13), (x2_32 + 0), (x3_33 + 2)) (show (TS q_465) ∧ (dFr [2] [6] q_26 q_465) ∧ ((q.1 0 13) = (q.1 0 13)) ∧ (0 ≤ Int32.toInt (x3_33 + 2)) ∧ (Int32.toInt (x3_33 + 2) ≤ 402) ∧ (Int32.toInt (q_465.1 2 30) = Int32.toInt (q_26.1 2 30)) ∧ (Int32.toInt (q_465.1 2 26) = Int32.toInt (q_26.1 2 26)) from ⟨hTq_465, (by rw [eq_465]; exact (((((dFr.rf : dFr [2] [6] q_26 q_26).t a_35 (by decide) (by decide)) : dFr [2] [6] q_26 q_30).t i_444 (by decide) (by decide)) : dFr [2] [6] q_26 q_441).f (by decide)), rfl, by omega, by omega, by omega, by omega⟩) (show (402 - Int32.toInt (x3_33 + 2)).toNat < (402 - Int32.toInt x3_33).toNat by omega)
                  · unfold zX10_row_129
                    refine dOk_eq (A := 1) (B := 0) (by decide) (by decide) (fun c_473z c_473 => ?_) (fun c_474z c_474 => ?_)
                    · unfold zX10_row_146
                      refine dOk_L (fun q_476 eq_476 => ?_)
                      have w_477 : Int32.toInt (q_441.1 0 6) = Int32.toInt (q_30.1 0 6) := by rw [i_444.2 6 (by decide)]
                      try have t_478 : Int32.toInt (q_441.1 0 6 + 1) = Int32.toInt (q_441.1 0 6) + 1 := ti_add rfl (by decide) (by omega) (by omega)
                      have hTq_476 : TS q_476 := by rw [eq_476]; exact ts_f i_443 (ti_rg _).1 (ti_rg _).2
                      have hFq_476 : dFr [1, 2] [0, 6, 13, 32] q q_476 := by rw [eq_476]; exact hFq_441.f (by decide)
                      try have t_479 : Int32.toInt (x2_32 + 1) = Int32.toInt x2_32 + 1 := ti_add rfl (by decide) (by omega) (by omega)
                      have f_480 : 0 ≤ Int32.toInt (q_476.1 2 30) ∧ Int32.toInt (q_476.1 2 30) ≤ 6 := hTq_476.1 2 30
                      have w_481 : Int32.toInt (q_476.1 2 30) = Int32.toInt (q_441.1 2 30) := by rw [eq_476, dui_o (by decide)]
                      have f_482 : 0 ≤ Int32.toInt (q_476.1 2 26) ∧ Int32.toInt (q_476.1 2 26) ≤ 10 := hTq_476.1 2 26
                      have w_483 : Int32.toInt (q_476.1 2 26) = Int32.toInt (q_441.1 2 26) := by rw [eq_476, dui_o (by decide)]
                      exact hk_28 (q_476, (q.1 0 13), (x2_32 + 1), (x3_33 + 2)) (show (TS q_476) ∧ (dFr [2] [6] q_26 q_476) ∧ ((q.1 0 13) = (q.1 0 13)) ∧ (0 ≤ Int32.toInt (x3_33 + 2)) ∧ (Int32.toInt (x3_33 + 2) ≤ 402) ∧ (Int32.toInt (q_476.1 2 30) = Int32.toInt (q_26.1 2 30)) ∧ (Int32.toInt (q_476.1 2 26) = Int32.toInt (q_26.1 2 26)) from ⟨hTq_476, (by rw [eq_476]; exact (((((dFr.rf : dFr [2] [6] q_26 q_26).t a_35 (by decide) (by decide)) : dFr [2] [6] q_26 q_30).t i_444 (by decide) (by decide)) : dFr [2] [6] q_26 q_441).f (by decide)), rfl, by omega, by omega, by omega, by omega⟩) (show (402 - Int32.toInt (x3_33 + 2)).toNat < (402 - Int32.toInt x3_33).toNat by omega)
                    · unfold zX10_row_146
                      refine dOk_L (fun q_484 eq_484 => ?_)
                      have w_485 : Int32.toInt (q_441.1 0 6) = Int32.toInt (q_30.1 0 6) := by rw [i_444.2 6 (by decide)]
                      try have t_486 : Int32.toInt (q_441.1 0 6 + 0) = Int32.toInt (q_441.1 0 6) + 0 := ti_add rfl (by decide) (by omega) (by omega)
                      have hTq_484 : TS q_484 := by rw [eq_484]; exact ts_f i_443 (ti_rg _).1 (ti_rg _).2
                      have hFq_484 : dFr [1, 2] [0, 6, 13, 32] q q_484 := by rw [eq_484]; exact hFq_441.f (by decide)
                      try have t_487 : Int32.toInt (x2_32 + 1) = Int32.toInt x2_32 + 1 := ti_add rfl (by decide) (by omega) (by omega)
                      have f_488 : 0 ≤ Int32.toInt (q_484.1 2 30) ∧ Int32.toInt (q_484.1 2 30) ≤ 6 := hTq_484.1 2 30
                      have w_489 : Int32.toInt (q_484.1 2 30) = Int32.toInt (q_441.1 2 30) := by rw [eq_484, dui_o (by decide)]
                      have f_490 : 0 ≤ Int32.toInt (q_484.1 2 26) ∧ Int32.toInt (q_484.1 2 26) ≤ 10 := hTq_484.1 2 26
                      have w_491 : Int32.toInt (q_484.1 2 26) = Int32.toInt (q_441.1 2 26) := by rw [eq_484, dui_o (by decide)]
                      exact hk_28 (q_484, (q.1 0 13), (x2_32 + 1), (x3_33 + 2)) (show (TS q_484) ∧ (dFr [2] [6] q_26 q_484) ∧ ((q.1 0 13) = (q.1 0 13)) ∧ (0 ≤ Int32.toInt (x3_33 + 2)) ∧ (Int32.toInt (x3_33 + 2) ≤ 402) ∧ (Int32.toInt (q_484.1 2 30) = Int32.toInt (q_26.1 2 30)) ∧ (Int32.toInt (q_484.1 2 26) = Int32.toInt (q_26.1 2 26)) from ⟨hTq_484, (by rw [eq_484]; exact (((((dFr.rf : dFr [2] [6] q_26 q_26).t a_35 (by decide) (by decide)) : dFr [2] [6] q_26 q_30).t i_444 (by decide) (by decide)) : dFr [2] [6] q_26 q_441).f (by decide)), rfl, by omega, by omega, by omega, by omega⟩) (show (402 - Int32.toInt (x3_33 + 2)).toNat < (402 - Int32.toInt x3_33).toNat by omega)
              · unfold zX10_row_92
                unfold zX10_row_93
                refine dOk_eq (A := 0) (B := 0) (by decide) (by decide) (fun c_492z c_492 => ?_) (fun c_493z c_493 => ?_)
                · unfold zX10_row_118
                  refine dOk_eq (A := 0) (B := 0) (by decide) (by decide) (fun c_495z c_495 => ?_) (fun c_496z c_496 => ?_)
                  · unfold zX10_row_129
                    refine dOk_eq (A := 0) (B := 0) (by decide) (by decide) (fun c_498z c_498 => ?_) (fun c_499z c_499 => ?_)
                    · unfold zX10_row_146
                      refine dOk_L (fun q_501 eq_501 => ?_)
                      try have t_502 : Int32.toInt (q_30.1 0 6 + 1) = Int32.toInt (q_30.1 0 6) + 1 := ti_add rfl (by decide) (by omega) (by omega)
                      have hTq_501 : TS q_501 := by rw [eq_501]; exact ts_f a_34 (ti_rg _).1 (ti_rg _).2
                      have hFq_501 : dFr [1, 2] [0, 6, 13, 32] q q_501 := by rw [eq_501]; exact hFq_30.f (by decide)
                      try have t_503 : Int32.toInt (x2_32 + 0) = Int32.toInt x2_32 + 0 := ti_add rfl (by decide) (by omega) (by omega)
                      have f_504 : 0 ≤ Int32.toInt (q_501.1 2 30) ∧ Int32.toInt (q_501.1 2 30) ≤ 6 := hTq_501.1 2 30
                      have w_505 : Int32.toInt (q_501.1 2 30) = Int32.toInt (q_30.1 2 30) := by rw [eq_501, dui_o (by decide)]
                      have f_506 : 0 ≤ Int32.toInt (q_501.1 2 26) ∧ Int32.toInt (q_501.1 2 26) ≤ 10 := hTq_501.1 2 26
                      have w_507 : Int32.toInt (q_501.1 2 26) = Int32.toInt (q_30.1 2 26) := by rw [eq_501, dui_o (by decide)]
                      exact hk_28 (q_501, (q.1 0 13), (x2_32 + 0), (x3_33 + 2)) (show (TS q_501) ∧ (dFr [2] [6] q_26 q_501) ∧ ((q.1 0 13) = (q.1 0 13)) ∧ (0 ≤ Int32.toInt (x3_33 + 2)) ∧ (Int32.toInt (x3_33 + 2) ≤ 402) ∧ (Int32.toInt (q_501.1 2 30) = Int32.toInt (q_26.1 2 30)) ∧ (Int32.toInt (q_501.1 2 26) = Int32.toInt (q_26.1 2 26)) from ⟨hTq_501, (by rw [eq_501]; exact (((dFr.rf : dFr [2] [6] q_26 q_26).t a_35 (by decide) (by decide)) : dFr [2] [6] q_26 q_30).f (by decide)), rfl, by omega, by omega, by omega, by omega⟩) (show (402 - Int32.toInt (x3_33 + 2)).toNat < (402 - Int32.toInt x3_33).toNat by omega)
                    · unfold zX10_row_146
                      refine dOk_L (fun q_508 eq_508 => ?_)
                      try have t_509 : Int32.toInt (q_30.1 0 6 + 0) = Int32.toInt (q_30.1 0 6) + 0 := ti_add rfl (by decide) (by omega) (by omega)
                      have hTq_508 : TS q_508 := by rw [eq_508]; exact ts_f a_34 (ti_rg _).1 (ti_rg _).2
                      have hFq_508 : dFr [1, 2] [0, 6, 13, 32] q q_508 := by rw [eq_508]; exact hFq_30.f (by decide)
                      try have t_510 : Int32.toInt (x2_32 + 0) = Int32.toInt x2_32 + 0 := ti_add rfl (by decide) (by omega) (by omega)
                      have f_511 : 0 ≤ Int32.toInt (q_508.1 2 30) ∧ Int32.toInt (q_508.1 2 30) ≤ 6 := hTq_508.1 2 30
                      have w_512 : Int32.toInt (q_508.1 2 30) = Int32.toInt (q_30.1 2 30) := by rw [eq_508, dui_o (by decide)]
                      have f_513 : 0 ≤ Int32.toInt (q_508.1 2 26) ∧ Int32.toInt (q_508.1 2 26) ≤ 10 := hTq_508.1 2 26
                      have w_514 : Int32.toInt (q_508.1 2 26) = Int32.toInt (q_30.1 2 26) := by rw [eq_508, dui_o (by decide)]
                      exact hk_28 (q_508, (q.1 0 13), (x2_32 + 0), (x3_33 + 2)) (show (TS q_508) ∧ (dFr [2] [6] q_26 q_508) ∧ ((q.1 0 13) = (q.1 0 13)) ∧ (0 ≤ Int32.toInt (x3_33 + 2)) ∧ (Int32.toInt (x3_33 + 2) ≤ 402) ∧ (Int32.toInt (q_508.1 2 30) = Int32.toInt (q_26.1 2 30)) ∧ (Int32.toInt (q_508.1 2 26) = Int32.toInt (q_26.1 2 26)) from ⟨hTq_508, (by rw [eq_508]; exact (((dFr.rf : dFr [2] [6] q_26 q_26).t a_35 (by decide) (by decide)) : dFr [2] [6] q_26 q_30).f (by decide)), rfl, by omega, by omega, by omega, by omega⟩) (show (402 - Int32.toInt (x3_33 + 2)).toNat < (402 - Int32.toInt x3_33).toNat by omega)
                  · unfold zX10_row_129
                    refine dOk_eq (A := 0) (B := 0) (by decide) (by decide) (fun c_515z c_515 => ?_) (fun c_516z c_516 => ?_)
                    · unfold zX10_row_146
                      refine dOk_L (fun q_518 eq_518 => ?_)
                      try have t_519 : Int32.toInt (q_30.1 0 6 + 1) = Int32.toInt (q_30.1 0 6) + 1 := ti_add rfl (by decide) (by omega) (by omega)
                      have hTq_518 : TS q_518 := by rw [eq_518]; exact ts_f a_34 (ti_rg _).1 (ti_rg _).2
                      have hFq_518 : dFr [1, 2] [0, 6, 13, 32] q q_518 := by rw [eq_518]; exact hFq_30.f (by decide)
                      try have t_520 : Int32.toInt (x2_32 + 1) = Int32.toInt x2_32 + 1 := ti_add rfl (by decide) (by omega) (by omega)
                      have f_521 : 0 ≤ Int32.toInt (q_518.1 2 30) ∧ Int32.toInt (q_518.1 2 30) ≤ 6 := hTq_518.1 2 30
                      have w_522 : Int32.toInt (q_518.1 2 30) = Int32.toInt (q_30.1 2 30) := by rw [eq_518, dui_o (by decide)]
                      have f_523 : 0 ≤ Int32.toInt (q_518.1 2 26) ∧ Int32.toInt (q_518.1 2 26) ≤ 10 := hTq_518.1 2 26
                      have w_524 : Int32.toInt (q_518.1 2 26) = Int32.toInt (q_30.1 2 26) := by rw [eq_518, dui_o (by decide)]
                      exact hk_28 (q_518, (q.1 0 13), (x2_32 + 1), (x3_33 + 2)) (show (TS q_518) ∧ (dFr [2] [6] q_26 q_518) ∧ ((q.1 0 13) = (q.1 0 13)) ∧ (0 ≤ Int32.toInt (x3_33 + 2)) ∧ (Int32.toInt (x3_33 + 2) ≤ 402) ∧ (Int32.toInt (q_518.1 2 30) = Int32.toInt (q_26.1 2 30)) ∧ (Int32.toInt (q_518.1 2 26) = Int32.toInt (q_26.1 2 26)) from ⟨hTq_518, (by rw [eq_518]; exact (((dFr.rf : dFr [2] [6] q_26 q_26).t a_35 (by decide) (by decide)) : dFr [2] [6] q_26 q_30).f (by decide)), rfl, by omega, by omega, by omega, by omega⟩) (show (402 - Int32.toInt (x3_33 + 2)).toNat < (402 - Int32.toInt x3_33).toNat by omega)
                    · unfold zX10_row_146
                      refine dOk_L (fun q_525 eq_525 => ?_)
                      try have t_526 : Int32.toInt (q_30.1 0 6 + 0) = Int32.toInt (q_30.1 0 6) + 0 := ti_add rfl (by decide) (by omega) (by omega)
                      have hTq_525 : TS q_525 := by rw [eq_525]; exact ts_f a_34 (ti_rg _).1 (ti_rg _).2
                      have hFq_525 : dFr [1, 2] [0, 6, 13, 32] q q_525 := by rw [eq_525]; exact hFq_30.f (by decide)
                      try have t_527 : Int32.toInt (x2_32 + 1) = Int32.toInt x2_32 + 1 := ti_add rfl (by decide) (by omega) (by omega)
                      have f_528 : 0 ≤ Int32.toInt (q_525.1 2 30) ∧ Int32.toInt (q_525.1 2 30) ≤ 6 := hTq_525.1 2 30
                      have w_529 : Int32.toInt (q_525.1 2 30) = Int32.toInt (q_30.1 2 30) := by rw [eq_525, dui_o (by decide)]
                      have f_530 : 0 ≤ Int32.toInt (q_525.1 2 26) ∧ Int32.toInt (q_525.1 2 26) ≤ 10 := hTq_525.1 2 26
                      have w_531 : Int32.toInt (q_525.1 2 26) = Int32.toInt (q_30.1 2 26) := by rw [eq_525, dui_o (by decide)]
                      exact hk_28 (q_525, (q.1 0 13), (x2_32 + 1), (x3_33 + 2)) (show (TS q_525) ∧ (dFr [2] [6] q_26 q_525) ∧ ((q.1 0 13) = (q.1 0 13)) ∧ (0 ≤ Int32.toInt (x3_33 + 2)) ∧ (Int32.toInt (x3_33 + 2) ≤ 402) ∧ (Int32.toInt (q_525.1 2 30) = Int32.toInt (q_26.1 2 30)) ∧ (Int32.toInt (q_525.1 2 26) = Int32.toInt (q_26.1 2 26)) from ⟨hTq_525, (by rw [eq_525]; exact (((dFr.rf : dFr [2] [6] q_26 q_26).t a_35 (by decide) (by decide)) : dFr [2] [6] q_26 q_30).f (by decide)), rfl, by omega, by omega, by omega, by omega⟩) (show (402 - Int32.toInt (x3_33 + 2)).toNat < (402 - Int32.toInt x3_33).toNat by omega)
                · refine dOk_G (dg_ok (show 0 ≤ Int32.toInt x3_33 by omega) (show Int32.toInt x3_33 < ((400 : Nat) : Int) by omega)) ?_
                  refine dOk_L (fun v_532 ev_532 => ?_)
                  have w_533 : Int32.toInt v_532 = Int32.toInt v_180 := by rw [ev_532, ev_180]
                  refine dOk_G (dg_ok (show 0 ≤ Int32.toInt (x3_33 + 1) by omega) (show Int32.toInt (x3_33 + 1) < ((400 : Nat) : Int) by omega)) ?_
                  refine dOk_L (fun v_534 ev_534 => ?_)
                  have w_535 : Int32.toInt v_534 = Int32.toInt v_285 := by rw [ev_534, ev_285]
                  refine dOk_V (ok_adds q_30 v_532 v_534 a_34 (show Int32.toInt (q_30.1 2 29) < 6 by omega) (show 0 ≤ Int32.toInt v_532 ∧ Int32.toInt v_532 ≤ 5 by omega) (show 0 ≤ Int32.toInt v_534 ∧ Int32.toInt v_534 ≤ 1 by omega)) (fun q_536 h_537 => ?_)
                  replace h_537 : (TS q_536) ∧ (dFr [2] [] q_30 q_536) ∧ (Int32.toInt (q_536.1 2 29) = Int32.toInt (q_30.1 2 29) + 1) ∧ (Int32.toInt (q_536.1 2 30) = Int32.toInt (q_30.1 2 30)) ∧ (Int32.toInt (q_536.1 2 26) = Int32.toInt (q_30.1 2 26)) := h_537
                  obtain ⟨i_538, i_539, i_540, i_541, i_542⟩ := h_537
                  have hFq_536 : dFr [1, 2] [0, 6, 13, 32] q q_536 := hFq_30.t i_539 (by decide) (by decide)
                  have f_543 : 0 ≤ Int32.toInt (q_536.1 2 29) ∧ Int32.toInt (q_536.1 2 29) ≤ 6 := i_538.1 2 29
                  have f_544 : 0 ≤ Int32.toInt (q_536.1 2 30) ∧ Int32.toInt (q_536.1 2 30) ≤ 6 := i_538.1 2 30
                  have f_545 : 0 ≤ Int32.toInt (q_536.1 2 26) ∧ Int32.toInt (q_536.1 2 26) ≤ 10 := i_538.1 2 26
                  unfold zX10_row_118
                  refine dOk_eq (A := 0) (B := 0) (by decide) (by decide) (fun c_546z c_546 => ?_) (fun c_547z c_547 => ?_)
                  · unfold zX10_row_129
                    refine dOk_eq (A := 0) (B := 0) (by decide) (by decide) (fun c_549z c_549 => ?_) (fun c_550z c_550 => ?_)
                    · unfold zX10_row_146
                      refine dOk_L (fun q_552 eq_552 => ?_)
                      have w_553 : Int32.toInt (q_536.1 0 6) = Int32.toInt (q_30.1 0 6) := by rw [i_539.2 6 (by decide)]
                      try have t_554 : Int32.toInt (q_536.1 0 6 + 1) = Int32.toInt (q_536.1 0 6) + 1 := ti_add rfl (by decide) (by omega) (by omega)
                      have hTq_552 : TS q_552 := by rw [eq_552]; exact ts_f i_538 (ti_rg _).1 (ti_rg _).2
                      have hFq_552 : dFr [1, 2] [0, 6, 13, 32] q q_552 := by rw [eq_552]; exact hFq_536.f (by decide)
                      try have t_555 : Int32.toInt (x2_32 + 0) = Int32.toInt x2_32 + 0 := ti_add rfl (by decide) (by omega) (by omega)
                      have f_556 : 0 ≤ Int32.toInt (q_552.1 2 30) ∧ Int32.toInt (q_552.1 2 30) ≤ 6 := hTq_552.1 2 30
                      have w_557 : Int32.toInt (q_552.1 2 30) = Int32.toInt (q_536.1 2 30) := by rw [eq_552, dui_o (by decide)]
                      have f_558 : 0 ≤ Int32.toInt (q_552.1 2 26) ∧ Int32.toInt (q_552.1 2 26) ≤ 10 := hTq_552.1 2 26
                      have w_559 : Int32.toInt (q_552.1 2 26) = Int32.toInt (q_536.1 2 26) := by rw [eq_552, dui_o (by decide)]
                      exact hk_28 (q_552, (q.1 0 13), (x2_32 + 0), (x3_33 + 2)) (show (TS q_552) ∧ (dFr [2] [6] q_26 q_552) ∧ ((q.1 0 13) = (q.1 0 13)) ∧ (0 ≤ Int32.toInt (x3_33 + 2)) ∧ (Int32.toInt (x3_33 + 2) ≤ 402) ∧ (Int32.toInt (q_552.1 2 30) = Int32.toInt (q_26.1 2 30)) ∧ (Int32.toInt (q_552.1 2 26) = Int32.toInt (q_26.1 2 26)) from ⟨hTq_552, (by rw [eq_552]; exact (((((dFr.rf : dFr [2] [6] q_26 q_26).t a_35 (by decide) (by decide)) : dFr [2] [6] q_26 q_30).t i_539 (by decide) (by decide)) : dFr [2] [6] q_26 q_536).f (by decide)), rfl, by omega, by omega, by omega, by omega⟩) (show (402 - Int32.toInt (x3_33 + 2)).toNat < (402 - Int32.toInt x3_33).toNat by omega)
                    · unfold zX10_row_146
                      refine dOk_L (fun q_560 eq_560 => ?_)
                      have w_561 : Int32.toInt (q_536.1 0 6) = Int32.toInt (q_30.1 0 6) := by rw [i_539.2 6 (by decide)]
                      try have t_562 : Int32.toInt (q_536.1 0 6 + 0) = Int32.toInt (q_536.1 0 6) + 0 := ti_add rfl (by decide) (by omega) (by omega)
                      have hTq_560 : TS q_560 := by rw [eq_560]; exact ts_f i_538 (ti_rg _).1 (ti_rg _).2
                      have hFq_560 : dFr [1, 2] [0, 6, 13, 32] q q_560 := by rw [eq_560]; exact hFq_536.f (by decide)
                      try have t_563 : Int32.toInt (x2_32 + 0) = Int32.toInt x2_32 + 0 := ti_add rfl (by decide) (by omega) (by omega)
                      have f_564 : 0 ≤ Int32.toInt (q_560.1 2 30) ∧ Int32.toInt (q_560.1 2 30) ≤ 6 := hTq_560.1 2 30
                      have w_565 : Int32.toInt (q_560.1 2 30) = Int32.toInt (q_536.1 2 30) := by rw [eq_560, dui_o (by decide)]
                      have f_566 : 0 ≤ Int32.toInt (q_560.1 2 26) ∧ Int32.toInt (q_560.1 2 26) ≤ 10 := hTq_560.1 2 26
                      have w_567 : Int32.toInt (q_560.1 2 26) = Int32.toInt (q_536.1 2 26) := by rw [eq_560, dui_o (by decide)]
                      exact hk_28 (q_560, (q.1 0 13), (x2_32 + 0), (x3_33 + 2)) (show (TS q_560) ∧ (dFr [2] [6] q_26 q_560) ∧ ((q.1 0 13) = (q.1 0 13)) ∧ (0 ≤ Int32.toInt (x3_33 + 2)) ∧ (Int32.toInt (x3_33 + 2) ≤ 402) ∧ (Int32.toInt (q_560.1 2 30) = Int32.toInt (q_26.1 2 30)) ∧ (Int32.toInt (q_560.1 2 26) = Int32.toInt (q_26.1 2 26)) from ⟨hTq_560, (by rw [eq_560]; exact (((((dFr.rf : dFr [2] [6] q_26 q_26).t a_35 (by decide) (by decide)) : dFr [2] [6] q_26 q_30).t i_539 (by decide) (by decide)) : dFr [2] [6] q_26 q_536).f (by decide)), rfl, by omega, by omega, by omega, by omega⟩) (show (402 - Int32.toInt (x3_33 + 2)).toNat < (402 - Int32.toInt x3_33).toNat by omega)
                  · unfold zX10_row_129
                    refine dOk_eq (A := 0) (B := 0) (by decide) (by decide) (fun c_568z c_568 => ?_) (fun c_569z c_569 => ?_)
                    · unfold zX10_row_146
                      refine dOk_L (fun q_571 eq_571 => ?_)
                      have w_572 : Int32.toInt (q_536.1 0 6) = Int32.toInt (q_30.1 0 6) := by rw [i_539.2 6 (by decide)]
                      try have t_573 : Int32.toInt (q_536.1 0 6 + 1) = Int32.toInt (q_536.1 0 6) + 1 := ti_add rfl (by decide) (by omega) (by omega)
                      have hTq_571 : TS q_571 := by rw [eq_571]; exact ts_f i_538 (ti_rg _).1 (ti_rg _).2
                      have hFq_571 : dFr [1, 2] [0, 6, 13, 32] q q_571 := by rw [eq_571]; exact hFq_536.f (by decide)
                      try have t_574 : Int32.toInt (x2_32 + 1) = Int32.toInt x2_32 + 1 := ti_add rfl (by decide) (by omega) (by omega)
                      have f_575 : 0 ≤ Int32.toInt (q_571.1 2 30) ∧ Int32.toInt (q_571.1 2 30) ≤ 6 := hTq_571.1 2 30
                      have w_576 : Int32.toInt (q_571.1 2 30) = Int32.toInt (q_536.1 2 30) := by rw [eq_571, dui_o (by decide)]
                      have f_577 : 0 ≤ Int32.toInt (q_571.1 2 26) ∧ Int32.toInt (q_571.1 2 26) ≤ 10 := hTq_571.1 2 26
                      have w_578 : Int32.toInt (q_571.1 2 26) = Int32.toInt (q_536.1 2 26) := by rw [eq_571, dui_o (by decide)]
                      exact hk_28 (q_571, (q.1 0 13), (x2_32 + 1), (x3_33 + 2)) (show (TS q_571) ∧ (dFr [2] [6] q_26 q_571) ∧ ((q.1 0 13) = (q.1 0 13)) ∧ (0 ≤ Int32.toInt (x3_33 + 2)) ∧ (Int32.toInt (x3_33 + 2) ≤ 402) ∧ (Int32.toInt (q_571.1 2 30) = Int32.toInt (q_26.1 2 30)) ∧ (Int32.toInt (q_571.1 2 26) = Int32.toInt (q_26.1 2 26)) from ⟨hTq_571, (by rw [eq_571]; exact (((((dFr.rf : dFr [2] [6] q_26 q_26).t a_35 (by decide) (by decide)) : dFr [2] [6] q_26 q_30).t i_539 (by decide) (by decide)) : dFr [2] [6] q_26 q_536).f (by decide)), rfl, by omega, by omega, by omega, by omega⟩) (show (402 - Int32.toInt (x3_33 + 2)).toNat < (402 - Int32.toInt x3_33).toNat by omega)
                    · unfold zX10_row_146
                      refine dOk_L (fun q_579 eq_579 => ?_)
                      have w_580 : Int32.toInt (q_536.1 0 6) = Int32.toInt (q_30.1 0 6) := by rw [i_539.2 6 (by decide)]
                      try have t_581 : Int32.toInt (q_536.1 0 6 + 0) = Int32.toInt (q_536.1 0 6) + 0 := ti_add rfl (by decide) (by omega) (by omega)
                      have hTq_579 : TS q_579 := by rw [eq_579]; exact ts_f i_538 (ti_rg _).1 (ti_rg _).2
                      have hFq_579 : dFr [1, 2] [0, 6, 13, 32] q q_579 := by rw [eq_579]; exact hFq_536.f (by decide)
                      try have t_582 : Int32.toInt (x2_32 + 1) = Int32.toInt x2_32 + 1 := ti_add rfl (by decide) (by omega) (by omega)
                      have f_583 : 0 ≤ Int32.toInt (q_579.1 2 30) ∧ Int32.toInt (q_579.1 2 30) ≤ 6 := hTq_579.1 2 30
                      have w_584 : Int32.toInt (q_579.1 2 30) = Int32.toInt (q_536.1 2 30) := by rw [eq_579, dui_o (by decide)]
                      have f_585 : 0 ≤ Int32.toInt (q_579.1 2 26) ∧ Int32.toInt (q_579.1 2 26) ≤ 10 := hTq_579.1 2 26
                      have w_586 : Int32.toInt (q_579.1 2 26) = Int32.toInt (q_536.1 2 26) := by rw [eq_579, dui_o (by decide)]
                      exact hk_28 (q_579, (q.1 0 13), (x2_32 + 1), (x3_33 + 2)) (show (TS q_579) ∧ (dFr [2] [6] q_26 q_579) ∧ ((q.1 0 13) = (q.1 0 13)) ∧ (0 ≤ Int32.toInt (x3_33 + 2)) ∧ (Int32.toInt (x3_33 + 2) ≤ 402) ∧ (Int32.toInt (q_579.1 2 30) = Int32.toInt (q_26.1 2 30)) ∧ (Int32.toInt (q_579.1 2 26) = Int32.toInt (q_26.1 2 26)) from ⟨hTq_579, (by rw [eq_579]; exact (((((dFr.rf : dFr [2] [6] q_26 q_26).t a_35 (by decide) (by decide)) : dFr [2] [6] q_26 q_30).t i_539 (by decide) (by decide)) : dFr [2] [6] q_26 q_536).f (by decide)), rfl, by omega, by omega, by omega, by omega⟩) (show (402 - Int32.toInt (x3_33 + 2)).toNat < (402 - Int32.toInt x3_33).toNat by omega)
    · have f_587 : 0 ≤ Int32.toInt (q_26.1 2 30) ∧ Int32.toInt (q_26.1 2 30) ≤ 6 := hTq_26.1 2 30
      have f_588 : 0 ≤ Int32.toInt (q_1.1 2 30) ∧ Int32.toInt (q_1.1 2 30) ≤ 6 := hTq_1.1 2 30
      have f_589 : 0 ≤ Int32.toInt (q.1 2 30) ∧ Int32.toInt (q.1 2 30) ≤ 6 := hT.1 2 30
      have w_590 : Int32.toInt (q_1.1 2 30) = Int32.toInt (q.1 2 30) := by rw [eq_1, dui_o (by decide)]
      have w_591 : Int32.toInt (q_26.1 2 30) = Int32.toInt (q_1.1 2 30) := by rw [eq_26, dui_o (by decide)]
      have f_592 : 0 ≤ Int32.toInt (q_26.1 2 26) ∧ Int32.toInt (q_26.1 2 26) ≤ 10 := hTq_26.1 2 26
      have f_593 : 0 ≤ Int32.toInt (q_1.1 2 26) ∧ Int32.toInt (q_1.1 2 26) ≤ 10 := hTq_1.1 2 26
      have f_594 : 0 ≤ Int32.toInt (q.1 2 26) ∧ Int32.toInt (q.1 2 26) ≤ 10 := hT.1 2 26
      have w_595 : Int32.toInt (q_1.1 2 26) = Int32.toInt (q.1 2 26) := by rw [eq_1, dui_o (by decide)]
      have w_596 : Int32.toInt (q_26.1 2 26) = Int32.toInt (q_1.1 2 26) := by rw [eq_26, dui_o (by decide)]
      exact (show (TS q_26) ∧ (dFr [2] [6] q_26 q_26) ∧ ((q.1 0 13) = (q.1 0 13)) ∧ (0 ≤ (0 : Int)) ∧ ((0 : Int) ≤ 402) ∧ (Int32.toInt (q_26.1 2 30) = Int32.toInt (q_26.1 2 30)) ∧ (Int32.toInt (q_26.1 2 26) = Int32.toInt (q_26.1 2 26)) from ⟨hTq_26, dFr.rf, rfl, by omega, by omega, by omega, by omega⟩)
    · show (402 - (0 : Int)).toNat < 1000000000000
      omega
end
section
set_option maxHeartbeats 4000000 in
set_option maxRecDepth 100000 in
theorem ok_bricks (q : dS) (hT : TS q) : dOk (zX10_bricks q) (fun (o : Int32 × dS) => (o.2 = q)) := by
  unfold zX10_bricks
  exact dOk_some (show (q = q) from rfl)

set_option maxHeartbeats 4000000 in
set_option maxRecDepth 100000 in
theorem ok_fault (q : dS) (hT : TS q) : dOk (zX10_fault q) (fun (o : Int32 × dS) => (o.2 = q)) := by
  unfold zX10_fault
  exact dOk_some (show (q = q) from rfl)

set_option maxHeartbeats 4000000 in
set_option maxRecDepth 100000 in
theorem ok_stopped (q : dS) (hT : TS q) : dOk (zX10_stopped q) (fun (o : Int32 × dS) => (o.2 = q)) := by
  unfold zX10_stopped
  exact dOk_some (show (q = q) from rfl)

set_option maxHeartbeats 4000000 in
set_option maxRecDepth 100000 in
theorem ok_status (q : dS) (hT : TS q) : dOk (zX10_status q) (fun (o : Int32 × dS) => (o.2 = q)) := by
  unfold zX10_status
  exact dOk_some (show (q = q) from rfl)

set_option maxHeartbeats 4000000 in
set_option maxRecDepth 100000 in
theorem ok_feed (q : dS) (p1 : Int32) (p2 : Int32) (p3 : Int32) (p4 : Int32) (p5 : Int32) (hT : TS q) : dOk (zX10_feed q p1 p2 p3 p4 p5) (fun (o : Int32 × dS) => (TS o.2) ∧ (dFr [7, 8] [13] q o.2) ∧ ((Int32.toInt (q.1 0 13) ≤ 380 ∧ Int32.toInt (o.2.1 0 13) = Int32.toInt (q.1 0 13) + 20 ∧ Int32.toInt o.1 = Int32.toInt (o.2.1 0 13)) ∨ (380 < Int32.toInt (q.1 0 13) ∧ Int32.toInt (o.2.1 0 13) = Int32.toInt (q.1 0 13) ∧ Int32.toInt o.1 = -1))) := by
  unfold zX10_feed
  have f_1 : 0 ≤ Int32.toInt (q.1 0 13) ∧ Int32.toInt (q.1 0 13) ≤ 400 := hT.1 0 13
  try have t_2 : Int32.toInt (q.1 0 13 + 20) = Int32.toInt (q.1 0 13) + 20 := ti_add rfl (by decide) (by omega) (by omega)
  refine dOk_le (A := Int32.toInt (q.1 0 13 + 20)) (B := 400) rfl (by decide) (fun c_3 => ?_) (fun c_4 => ?_)
  · refine dOk_L (fun q_5 eq_5 => ?_)
    have hTq_5 : TS q_5 := by rw [eq_5]; exact ts_any hT rfl
    have hFq_5 : dFr [7, 8] [13] q q_5 := by rw [eq_5]; exact (dFr.rf (q := q)).i (by decide) (by decide)
    refine dOk_L (fun q_6 eq_6 => ?_)
    have hTq_6 : TS q_6 := by rw [eq_6]; exact ts_any hTq_5 rfl
    have hFq_6 : dFr [7, 8] [13] q q_6 := by rw [eq_6]; exact hFq_5.i (by decide) (by decide)
    refine dOk_L (fun q_7 eq_7 => ?_)
    have hTq_7 : TS q_7 := by rw [eq_7]; exact ts_any hTq_6 rfl
    have hFq_7 : dFr [7, 8] [13] q q_7 := by rw [eq_7]; exact hFq_6.i (by decide) (by decide)
    refine dOk_L (fun q_8 eq_8 => ?_)
    have hTq_8 : TS q_8 := by rw [eq_8]; exact ts_any hTq_7 rfl
    have hFq_8 : dFr [7, 8] [13] q q_8 := by rw [eq_8]; exact hFq_7.i (by decide) (by decide)
    refine dOk_L (fun q_9 eq_9 => ?_)
    have hTq_9 : TS q_9 := by rw [eq_9]; exact ts_any hTq_8 rfl
    have hFq_9 : dFr [7, 8] [13] q q_9 := by rw [eq_9]; exact hFq_8.i (by decide) (by decide)
    unfold zX10_feed_55
    refine dFix_ok (fun (a : dS × Int32) => (TS a.1) ∧ (dFr [7] [] q_9 a.1) ∧ (0 ≤ Int32.toInt a.2) ∧ (Int32.toInt a.2 ≤ 20)) (fun (a : dS × Int32) => (20 - Int32.toInt a.2).toNat) ?_ _ ?_ _ (dF_gt ?_)
    · intro a ha k_11 hk_10
      obtain ⟨q_12, x6_13⟩ := a
      replace ha : (TS q_12) ∧ (dFr [7] [] q_9 q_12) ∧ (0 ≤ Int32.toInt x6_13) ∧ (Int32.toInt x6_13 ≤ 20) := ha
      obtain ⟨a_14, a_15, a_16, a_17⟩ := ha
      show dOk (zX10_feed_55b  (fun q x6 => k_11 (q, x6)) q_12 x6_13) _
      unfold zX10_feed_55b
      have hFq_12 : dFr [7, 8] [13] q q_12 := hFq_9.t a_15 (by decide) (by decide)
      refine dOk_le (A := 20) (B := Int32.toInt x6_13) (by decide) rfl (fun c_18 => ?_) (fun c_19 => ?_)
      · refine dOk_L (fun q_20 eq_20 => ?_)
        have f_21 : 0 ≤ Int32.toInt (q_12.1 0 13) ∧ Int32.toInt (q_12.1 0 13) ≤ 400 := a_14.1 0 13
        have f_22 : 0 ≤ Int32.toInt (q_9.1 0 13) ∧ Int32.toInt (q_9.1 0 13) ≤ 400 := hTq_9.1 0 13
        have f_23 : 0 ≤ Int32.toInt (q_8.1 0 13) ∧ Int32.toInt (q_8.1 0 13) ≤ 400 := hTq_8.1 0 13
        have f_24 : 0 ≤ Int32.toInt (q_7.1 0 13) ∧ Int32.toInt (q_7.1 0 13) ≤ 400 := hTq_7.1 0 13
        have f_25 : 0 ≤ Int32.toInt (q_6.1 0 13) ∧ Int32.toInt (q_6.1 0 13) ≤ 400 := hTq_6.1 0 13
        have f_26 : 0 ≤ Int32.toInt (q_5.1 0 13) ∧ Int32.toInt (q_5.1 0 13) ≤ 400 := hTq_5.1 0 13
        have w_27 : Int32.toInt (q_5.1 0 13) = Int32.toInt (q.1 0 13) := by rw [eq_5, dui_o (by decide)]
        have w_28 : Int32.toInt (q_6.1 0 13) = Int32.toInt (q_5.1 0 13) := by rw [eq_6, dui_o (by decide)]
        have w_29 : Int32.toInt (q_7.1 0 13) = Int32.toInt (q_6.1 0 13) := by rw [eq_7, dui_o (by decide)]
        have w_30 : Int32.toInt (q_8.1 0 13) = Int32.toInt (q_7.1 0 13) := by rw [eq_8, dui_o (by decide)]
        have w_31 : Int32.toInt (q_9.1 0 13) = Int32.toInt (q_8.1 0 13) := by rw [eq_9, dui_o (by decide)]
        have w_32 : Int32.toInt (q_12.1 0 13) = Int32.toInt (q_9.1 0 13) := by rw [a_15.2 13 (by decide)]
        try have t_33 : Int32.toInt (q_12.1 0 13 + 20) = Int32.toInt (q_12.1 0 13) + 20 := ti_add rfl (by decide) (by omega) (by omega)
        have hTq_20 : TS q_20 := by rw [eq_20]; exact ts_f a_14 (show 0 ≤ Int32.toInt (q_12.1 0 13 + 20) by omega) (show Int32.toInt (q_12.1 0 13 + 20) ≤ 400 by omega)
        have hFq_20 : dFr [7, 8] [13] q q_20 := by rw [eq_20]; exact hFq_12.f (by decide)
        have f_34 : 0 ≤ Int32.toInt (q_20.1 0 13) ∧ Int32.toInt (q_20.1 0 13) ≤ 400 := hTq_20.1 0 13
        have w_35 : Int32.toInt (q_20.1 0 13) = Int32.toInt (q_12.1 0 13 + 20) := by rw [eq_20, dui_e]
        exact dOk_some (show (TS q_20) ∧ (dFr [7, 8] [13] q q_20) ∧ ((Int32.toInt (q.1 0 13) ≤ 380 ∧ Int32.toInt (q_20.1 0 13) = Int32.toInt (q.1 0 13) + 20 ∧ Int32.toInt (q_20.1 0 13) = Int32.toInt (q_20.1 0 13)) ∨ (380 < Int32.toInt (q.1 0 13) ∧ Int32.toInt (q_20.1 0 13) = Int32.toInt (q.1 0 13) ∧ Int32.toInt (q_20.1 0 13) = -1)) from ⟨hTq_20, hFq_20, by omega⟩)
      · try have t_36 : Int32.toInt (x6_13 / 4) = Int32.toInt x6_13 / 4 := ti_div rfl (by decide) (by omega) (by omega)
        refine dOk_G (dg_ok (show 0 ≤ Int32.toInt (x6_13 / 4) by omega) (show Int32.toInt (x6_13 / 4) < ((5 : Nat) : Int) by omega)) ?_
        have n_37 : ((Int32.toNatClampNeg (x6_13 / 4) : Nat) : Int) = Int32.toInt (x6_13 / 4) := cl_eq (by omega)
        refine dOk_L (fun v_38 ev_38 => ?_)
        try have t_40 : Int32.toInt (x6_13 - x6_13 / 4 * 4) = Int32.toInt x6_13 % 4 := ti_rem rfl (by decide) (by omega) (by omega)
        try have t_41 : Int32.toInt (8 * (x6_13 - x6_13 / 4 * 4)) = 8 * Int32.toInt (x6_13 - x6_13 / 4 * 4) := ti_mul (by decide) rfl (by omega) (by omega)
        try have t_42 : Int32.toInt (24 - 8 * (x6_13 - x6_13 / 4 * 4)) = 24 - Int32.toInt (8 * (x6_13 - x6_13 / 4 * 4)) := ti_sub (by decide) rfl (by omega) (by omega)
        refine dOk_L (fun v_39 ev_39 => ?_)
        have w_43 : Int32.toInt v_39 = Int32.toInt (v_38 >>> ((24 - 8 * (x6_13 - x6_13 / 4 * 4) : Int32) &&& 31)) := by rw [ev_39]
        have f_44 : 0 ≤ Int32.toInt (q_12.1 0 13) ∧ Int32.toInt (q_12.1 0 13) ≤ 400 := a_14.1 0 13
        have f_45 : 0 ≤ Int32.toInt (q_9.1 0 13) ∧ Int32.toInt (q_9.1 0 13) ≤ 400 := hTq_9.1 0 13
        have f_46 : 0 ≤ Int32.toInt (q_8.1 0 13) ∧ Int32.toInt (q_8.1 0 13) ≤ 400 := hTq_8.1 0 13
        have f_47 : 0 ≤ Int32.toInt (q_7.1 0 13) ∧ Int32.toInt (q_7.1 0 13) ≤ 400 := hTq_7.1 0 13
        have f_48 : 0 ≤ Int32.toInt (q_6.1 0 13) ∧ Int32.toInt (q_6.1 0 13) ≤ 400 := hTq_6.1 0 13
        have f_49 : 0 ≤ Int32.toInt (q_5.1 0 13) ∧ Int32.toInt (q_5.1 0 13) ≤ 400 := hTq_5.1 0 13
        have w_50 : Int32.toInt (q_5.1 0 13) = Int32.toInt (q.1 0 13) := by rw [eq_5, dui_o (by decide)]
        have w_51 : Int32.toInt (q_6.1 0 13) = Int32.toInt (q_5.1 0 13) := by rw [eq_6, dui_o (by decide)]
        have w_52 : Int32.toInt (q_7.1 0 13) = Int32.toInt (q_6.1 0 13) := by rw [eq_7, dui_o (by decide)]
        have w_53 : Int32.toInt (q_8.1 0 13) = Int32.toInt (q_7.1 0 13) := by rw [eq_8, dui_o (by decide)]
        have w_54 : Int32.toInt (q_9.1 0 13) = Int32.toInt (q_8.1 0 13) := by rw [eq_9, dui_o (by decide)]
        have w_55 : Int32.toInt (q_12.1 0 13) = Int32.toInt (q_9.1 0 13) := by rw [a_15.2 13 (by decide)]
        try have t_56 : Int32.toInt (q_12.1 0 13 + x6_13) = Int32.toInt (q_12.1 0 13) + Int32.toInt x6_13 := ti_add rfl rfl (by omega) (by omega)
        refine dOk_G (dg_ok (show 0 ≤ Int32.toInt (q_12.1 0 13 + x6_13) by omega) (show Int32.toInt (q_12.1 0 13 + x6_13) < ((400 : Nat) : Int) by omega)) ?_
        have n_57 : ((Int32.toNatClampNeg (q_12.1 0 13 + x6_13) : Nat) : Int) = Int32.toInt (q_12.1 0 13 + x6_13) := cl_eq (by omega)
        refine dOk_L (fun q_58 eq_58 => ?_)
        have hTq_58 : TS q_58 := by rw [eq_58]; exact ts_any a_14 rfl
        have hFq_58 : dFr [7, 8] [13] q q_58 := by rw [eq_58]; exact hFq_12.i (by decide) (by decide)
        try have t_59 : Int32.toInt (x6_13 + 1) = Int32.toInt x6_13 + 1 := ti_add rfl (by decide) (by omega) (by omega)
        exact hk_10 (q_58, (x6_13 + 1)) (show (TS q_58) ∧ (dFr [7] [] q_9 q_58) ∧ (0 ≤ Int32.toInt (x6_13 + 1)) ∧ (Int32.toInt (x6_13 + 1) ≤ 20) from ⟨hTq_58, (by rw [eq_58]; exact (((dFr.rf : dFr [7] [] q_9 q_9).t a_15 (by decide) (by decide)) : dFr [7] [] q_9 q_12).i (by decide) (by decide)), by omega, by omega⟩) (show (20 - Int32.toInt (x6_13 + 1)).toNat < (20 - Int32.toInt x6_13).toNat by omega)
    · exact (show (TS q_9) ∧ (dFr [7] [] q_9 q_9) ∧ (0 ≤ (0 : Int)) ∧ ((0 : Int) ≤ 20) from ⟨hTq_9, dFr.rf, by omega, by omega⟩)
    · show (20 - (0 : Int)).toNat < 1000000000000
      omega
  · exact dOk_some (show (TS q) ∧ (dFr [7, 8] [13] q q) ∧ ((Int32.toInt (q.1 0 13) ≤ 380 ∧ Int32.toInt (q.1 0 13) = Int32.toInt (q.1 0 13) + 20 ∧ (-1 : Int) = Int32.toInt (q.1 0 13)) ∨ (380 < Int32.toInt (q.1 0 13) ∧ Int32.toInt (q.1 0 13) = Int32.toInt (q.1 0 13) ∧ (-1 : Int) = -1)) from ⟨hT, (dFr.rf (q := q)), by omega⟩)

set_option maxHeartbeats 4000000 in
set_option maxRecDepth 100000 in
theorem ok_end (q : dS) (p1 : Int32) (hT : TS q) : dOk (zX10_end q p1) (fun (o : Int32 × dS) => (TS o.2) ∧ (dFr [] [13] q o.2) ∧ ((0 ≤ Int32.toInt p1 ∧ Int32.toInt p1 ≤ Int32.toInt (q.1 0 13) ∧ Int32.toInt (o.2.1 0 13) = Int32.toInt p1 ∧ Int32.toInt o.1 = Int32.toInt p1) ∨ ((Int32.toInt p1 < 0 ∨ Int32.toInt (q.1 0 13) < Int32.toInt p1) ∧ Int32.toInt (o.2.1 0 13) = Int32.toInt (q.1 0 13) ∧ Int32.toInt o.1 = -1))) := by
  unfold zX10_end
  have f_1 : 0 ≤ Int32.toInt (q.1 0 13) ∧ Int32.toInt (q.1 0 13) ≤ 400 := hT.1 0 13
  refine dOk_V (ok_lies p1 0 (q.1 0 13)) (fun r_2 h_3 => ?_)
  replace h_3 : ((Int32.toInt r_2 = 1 ∧ (0 : Int) ≤ Int32.toInt p1 ∧ Int32.toInt p1 ≤ Int32.toInt (q.1 0 13)) ∨ (Int32.toInt r_2 = 0 ∧ (Int32.toInt p1 < (0 : Int) ∨ Int32.toInt (q.1 0 13) < Int32.toInt p1))) := h_3
  have i_4 := h_3
  refine dOk_eq (A := Int32.toInt r_2) (B := 0) rfl (by decide) (fun c_5z c_5 => ?_) (fun c_6z c_6 => ?_)
  · exact dOk_some (show (TS q) ∧ (dFr [] [13] q q) ∧ ((0 ≤ Int32.toInt p1 ∧ Int32.toInt p1 ≤ Int32.toInt (q.1 0 13) ∧ Int32.toInt (q.1 0 13) = Int32.toInt p1 ∧ (-1 : Int) = Int32.toInt p1) ∨ ((Int32.toInt p1 < 0 ∨ Int32.toInt (q.1 0 13) < Int32.toInt p1) ∧ Int32.toInt (q.1 0 13) = Int32.toInt (q.1 0 13) ∧ (-1 : Int) = -1)) from ⟨hT, (dFr.rf (q := q)), by omega⟩)
  · refine dOk_L (fun q_8 eq_8 => ?_)
    have hTq_8 : TS q_8 := by rw [eq_8]; exact ts_f hT (show 0 ≤ Int32.toInt p1 by omega) (show Int32.toInt p1 ≤ 400 by omega)
    have hFq_8 : dFr [] [13] q q_8 := by rw [eq_8]; exact (dFr.rf (q := q)).f (by decide)
    have f_9 : 0 ≤ Int32.toInt (q_8.1 0 13) ∧ Int32.toInt (q_8.1 0 13) ≤ 400 := hTq_8.1 0 13
    have w_10 : Int32.toInt (q_8.1 0 13) = Int32.toInt p1 := by rw [eq_8, dui_e]
    exact dOk_some (show (TS q_8) ∧ (dFr [] [13] q q_8) ∧ ((0 ≤ Int32.toInt p1 ∧ Int32.toInt p1 ≤ Int32.toInt (q.1 0 13) ∧ Int32.toInt (q_8.1 0 13) = Int32.toInt p1 ∧ Int32.toInt p1 = Int32.toInt p1) ∨ ((Int32.toInt p1 < 0 ∨ Int32.toInt (q.1 0 13) < Int32.toInt p1) ∧ Int32.toInt (q_8.1 0 13) = Int32.toInt (q.1 0 13) ∧ Int32.toInt p1 = -1)) from ⟨hTq_8, hFq_8, by omega⟩)

set_option maxHeartbeats 4000000 in
set_option maxRecDepth 100000 in
theorem ok_isSmall (p1 : Int32) : dOk (zX10_isSmall p1) (fun (o : Int32) => ((Int32.toInt o = 1 ∧ 97 ≤ Int32.toInt p1 ∧ Int32.toInt p1 ≤ 122) ∨ (Int32.toInt o = 0 ∧ (Int32.toInt p1 < 97 ∨ 122 < Int32.toInt p1)))) := by
  unfold zX10_isSmall
  refine dOk_lt (A := Int32.toInt p1) (B := 97) rfl (by decide) (fun c_1 => ?_) (fun c_2 => ?_)
  · unfold zX10_isSmall_16
    unfold zX10_isSmall_17
    refine dOk_G (dbl_ok (show (0 : Int) = 0 ∨ (0 : Int) = 1 by omega)) ?_
    exact dOk_some (show (((0 : Int) = 1 ∧ 97 ≤ Int32.toInt p1 ∧ Int32.toInt p1 ≤ 122) ∨ ((0 : Int) = 0 ∧ (Int32.toInt p1 < 97 ∨ 122 < Int32.toInt p1))) from (by omega))
  · refine dOk_lt (A := 122) (B := Int32.toInt p1) (by decide) rfl (fun c_3 => ?_) (fun c_4 => ?_)
    · unfold zX10_isSmall_16
      unfold zX10_isSmall_17
      refine dOk_G (dbl_ok (show (0 : Int) = 0 ∨ (0 : Int) = 1 by omega)) ?_
      exact dOk_some (show (((0 : Int) = 1 ∧ 97 ≤ Int32.toInt p1 ∧ Int32.toInt p1 ≤ 122) ∨ ((0 : Int) = 0 ∧ (Int32.toInt p1 < 97 ∨ 122 < Int32.toInt p1))) from (by omega))
    · unfold zX10_isSmall_17
      refine dOk_G (dbl_ok (show (1 : Int) = 0 ∨ (1 : Int) = 1 by omega)) ?_
      exact dOk_some (show (((1 : Int) = 1 ∧ 97 ≤ Int32.toInt p1 ∧ Int32.toInt p1 ≤ 122) ∨ ((1 : Int) = 0 ∧ (Int32.toInt p1 < 97 ∨ 122 < Int32.toInt p1))) from (by omega))

set_option maxHeartbeats 4000000 in
set_option maxRecDepth 100000 in
theorem ok_isDigit (p1 : Int32) : dOk (zX10_isDigit p1) (fun (o : Int32) => ((Int32.toInt o = 1 ∧ 48 ≤ Int32.toInt p1 ∧ Int32.toInt p1 ≤ 57) ∨ (Int32.toInt o = 0 ∧ (Int32.toInt p1 < 48 ∨ 57 < Int32.toInt p1)))) := by
  unfold zX10_isDigit
  refine dOk_lt (A := Int32.toInt p1) (B := 48) rfl (by decide) (fun c_1 => ?_) (fun c_2 => ?_)
  · unfold zX10_isDigit_16
    unfold zX10_isDigit_17
    refine dOk_G (dbl_ok (show (0 : Int) = 0 ∨ (0 : Int) = 1 by omega)) ?_
    exact dOk_some (show (((0 : Int) = 1 ∧ 48 ≤ Int32.toInt p1 ∧ Int32.toInt p1 ≤ 57) ∨ ((0 : Int) = 0 ∧ (Int32.toInt p1 < 48 ∨ 57 < Int32.toInt p1))) from (by omega))
  · refine dOk_lt (A := 57) (B := Int32.toInt p1) (by decide) rfl (fun c_3 => ?_) (fun c_4 => ?_)
    · unfold zX10_isDigit_16
      unfold zX10_isDigit_17
      refine dOk_G (dbl_ok (show (0 : Int) = 0 ∨ (0 : Int) = 1 by omega)) ?_
      exact dOk_some (show (((0 : Int) = 1 ∧ 48 ≤ Int32.toInt p1 ∧ Int32.toInt p1 ≤ 57) ∨ ((0 : Int) = 0 ∧ (Int32.toInt p1 < 48 ∨ 57 < Int32.toInt p1))) from (by omega))
    · unfold zX10_isDigit_17
      refine dOk_G (dbl_ok (show (1 : Int) = 0 ∨ (1 : Int) = 1 by omega)) ?_
      exact dOk_some (show (((1 : Int) = 1 ∧ 48 ≤ Int32.toInt p1 ∧ Int32.toInt p1 ≤ 57) ∨ ((1 : Int) = 0 ∧ (Int32.toInt p1 < 48 ∨ 57 < Int32.toInt p1))) from (by omega))
end
section
set_option maxHeartbeats 4000000 in
set_option maxRecDepth 100000 in
theorem ok_wordOf (q : dS) (p1 : Int32) (p2 : Int32) (hT : TS q) (hp0 : 0 ≤ Int32.toInt p1) (hp1 : Int32.toInt p1 < Int32.toInt p2) (hp2 : Int32.toInt p2 ≤ 400) : dOk (zX10_wordOf q p1 p2) (fun (o : Int32 × dS) => (o.2 = q)) := by
  unfold zX10_wordOf
  unfold zX10_wordOf_5
  refine dFix_ok (fun (a : dS × Int32 × Int32 × Int32 × Int32) => (a.1 = q) ∧ (a.2.1 = p1) ∧ (a.2.2.1 = p2) ∧ (0 ≤ Int32.toInt a.2.2.2.2) ∧ (Int32.toInt a.2.2.2.2 ≤ 128)) (fun (a : dS × Int32 × Int32 × Int32 × Int32) => (128 - Int32.toInt a.2.2.2.2).toNat) ?_ _ ?_ _ (dF_gt ?_)
  · intro a ha k_2 hk_1
    obtain ⟨q_3, x1_4, x2_5, x3_6, x4_7⟩ := a
    replace ha : (q_3 = q) ∧ (x1_4 = p1) ∧ (x2_5 = p2) ∧ (0 ≤ Int32.toInt x4_7) ∧ (Int32.toInt x4_7 ≤ 128) := ha
    obtain ⟨a_8, a_9, a_10, a_11, a_12⟩ := ha
    show dOk (zX10_wordOf_5b  (fun q x1 x2 x3 x4 => k_2 (q, x1, x2, x3, x4)) q_3 x1_4 x2_5 x3_6 x4_7) _
    unfold zX10_wordOf_5b
    subst q_3
    subst x1_4
    subst x2_5
    refine dOk_le (A := 128) (B := Int32.toInt x4_7) (by decide) rfl (fun c_13 => ?_) (fun c_14 => ?_)
    · exact dOk_some (show (q = q) from rfl)
    · unfold zX10_wordOf_18
      refine dFix_ok (fun (a : dS × Int32 × Int32 × Int32 × Int32 × Int32) => (a.1 = q) ∧ (a.2.1 = p1) ∧ (a.2.2.1 = p2) ∧ (a.2.2.2.1 = x3_6) ∧ (a.2.2.2.2.1 = x4_7) ∧ (0 ≤ Int32.toInt a.2.2.2.2.2) ∧ (Int32.toInt a.2.2.2.2.1 + Int32.toInt a.2.2.2.2.2 ≤ 127)) (fun (a : dS × Int32 × Int32 × Int32 × Int32 × Int32) => (128 - Int32.toInt a.2.2.2.2.2).toNat) ?_ _ ?_ _ (dF_gt ?_)
      · intro a ha k_16 hk_15
        obtain ⟨q_17, x1_18, x2_19, x3_20, x4_21, x5_22⟩ := a
        replace ha : (q_17 = q) ∧ (x1_18 = p1) ∧ (x2_19 = p2) ∧ (x3_20 = x3_6) ∧ (x4_21 = x4_7) ∧ (0 ≤ Int32.toInt x5_22) ∧ (Int32.toInt x4_21 + Int32.toInt x5_22 ≤ 127) := ha
        obtain ⟨a_23, a_24, a_25, a_26, a_27, a_28, a_29⟩ := ha
        show dOk (zX10_wordOf_18b _ (fun q x1 x2 x3 x4 x5 => k_16 (q, x1, x2, x3, x4, x5)) q_17 x1_18 x2_19 x3_20 x4_21 x5_22) _
        unfold zX10_wordOf_18b
        subst q_17
        subst x1_18
        subst x2_19
        subst x3_20
        subst x4_21
        try have t_30 : Int32.toInt (x4_7 + x5_22) = Int32.toInt x4_7 + Int32.toInt x5_22 := ti_add rfl rfl (by omega) (by omega)
        refine dOk_G (dg_ok (show 0 ≤ Int32.toInt (x4_7 + x5_22) by omega) (show Int32.toInt (x4_7 + x5_22) < ((128 : Nat) : Int) by omega)) ?_
        have n_31 : ((Int32.toNatClampNeg (x4_7 + x5_22) : Nat) : Int) = Int32.toInt (x4_7 + x5_22) := cl_eq (by omega)
        refine dOk_L (fun v_32 ev_32 => ?_)
        have f_33 : (Int32.toNatClampNeg (x4_7 + x5_22) = 127 → Int32.toInt v_32 = 32) := by intro z9; rw [ev_32, z9, hT.2.2.2 127 (by decide)]; decide
        refine dOk_eq (A := Int32.toInt v_32) (B := 32) rfl (by decide) (fun c_34z c_34 => ?_) (fun c_35z c_35 => ?_)
        · try have t_37 : Int32.toInt (p2 - p1) = Int32.toInt p2 - Int32.toInt p1 := ti_sub rfl rfl (by omega) (by omega)
          refine dOk_eq (A := Int32.toInt x5_22) (B := Int32.toInt (p2 - p1)) rfl rfl (fun c_38z c_38 => ?_) (fun c_39z c_39 => ?_)
          · unfold zX10_wordOf_52
            unfold zX10_wordOf_57
            refine dFix_ok (fun (a : dS × Int32 × Int32 × Int32 × Int32 × Int32 × Int32 × Int32) => (a.1 = q) ∧ (a.2.1 = p1) ∧ (a.2.2.1 = p2) ∧ (a.2.2.2.1 = x3_6) ∧ (a.2.2.2.2.1 = x4_7) ∧ (a.2.2.2.2.2.1 = x5_22) ∧ (0 ≤ Int32.toInt a.2.2.2.2.2.2.2) ∧ (Int32.toInt a.2.2.2.2.2.2.2 ≤ Int32.toInt a.2.2.2.2.2.1) ∧ (Int32.toInt a.2.2.2.2.2.2.1 = 0 ∨ (Int32.toInt a.2.2.2.2.2.2.1 = 1 ∧ Int32.toInt a.2.2.2.2.2.1 = Int32.toInt a.2.2.1 - Int32.toInt a.2.1))) (fun (a : dS × Int32 × Int32 × Int32 × Int32 × Int32 × Int32 × Int32) => (128 - Int32.toInt a.2.2.2.2.2.2.2).toNat) ?_ _ ?_ _ (dF_gt ?_)
            · intro a ha k_42 hk_41
              obtain ⟨q_43, x1_44, x2_45, x3_46, x4_47, x5_48, x6_49, x7_50⟩ := a
              replace ha : (q_43 = q) ∧ (x1_44 = p1) ∧ (x2_45 = p2) ∧ (x3_46 = x3_6) ∧ (x4_47 = x4_7) ∧ (x5_48 = x5_22) ∧ (0 ≤ Int32.toInt x7_50) ∧ (Int32.toInt x7_50 ≤ Int32.toInt x5_48) ∧ (Int32.toInt x6_49 = 0 ∨ (Int32.toInt x6_49 = 1 ∧ Int32.toInt x5_48 = Int32.toInt x2_45 - Int32.toInt x1_44)) := ha
              obtain ⟨a_51, a_52, a_53, a_54, a_55, a_56, a_57, a_58, a_59⟩ := ha
              show dOk (zX10_wordOf_57b _ (fun q x1 x2 x3 x4 x5 x6 x7 => k_42 (q, x1, x2, x3, x4, x5, x6, x7)) q_43 x1_44 x2_45 x3_46 x4_47 x5_48 x6_49 x7_50) _
              unfold zX10_wordOf_57b
              subst q_43
              subst x1_44
              subst x2_45
              subst x3_46
              subst x4_47
              subst x5_48
              refine dOk_le (A := Int32.toInt x5_22) (B := Int32.toInt x7_50) rfl rfl (fun c_60 => ?_) (fun c_61 => ?_)
              · unfold zX10_wordOf_104
                refine dOk_eq (A := Int32.toInt x6_49) (B := 0) rfl (by decide) (fun c_62z c_62 => ?_) (fun c_63z c_63 => ?_)
                · try have t_65 : Int32.toInt (x3_6 + 1) = Int32.toInt x3_6 + 1 := ti_add rfl (by decide) (by omega) (by omega)
                  try have t_66 : Int32.toInt (x5_22 + 1) = Int32.toInt x5_22 + 1 := ti_add rfl (by decide) (by omega) (by omega)
                  try have t_67 : Int32.toInt (x4_7 + (x5_22 + 1)) = Int32.toInt x4_7 + Int32.toInt (x5_22 + 1) := ti_add rfl rfl (by omega) (by omega)
                  exact hk_1 (q, p1, p2, (x3_6 + 1), (x4_7 + (x5_22 + 1))) (show (q = q) ∧ (p1 = p1) ∧ (p2 = p2) ∧ (0 ≤ Int32.toInt (x4_7 + (x5_22 + 1))) ∧ (Int32.toInt (x4_7 + (x5_22 + 1)) ≤ 128) from ⟨rfl, rfl, rfl, by omega, by omega⟩) (show (128 - Int32.toInt (x4_7 + (x5_22 + 1))).toNat < (128 - Int32.toInt x4_7).toNat by omega)
                · exact dOk_some (show (q = q) from rfl)
              · refine dOk_eq (A := Int32.toInt x6_49) (B := 0) rfl (by decide) (fun c_68z c_68 => ?_) (fun c_69z c_69 => ?_)
                · unfold zX10_wordOf_104
                  refine dOk_eq (A := Int32.toInt x6_49) (B := 0) rfl (by decide) (fun c_71z c_71 => ?_) (fun c_72z c_72 => ?_)
                  · try have t_74 : Int32.toInt (x3_6 + 1) = Int32.toInt x3_6 + 1 := ti_add rfl (by decide) (by omega) (by omega)
                    try have t_75 : Int32.toInt (x5_22 + 1) = Int32.toInt x5_22 + 1 := ti_add rfl (by decide) (by omega) (by omega)
                    try have t_76 : Int32.toInt (x4_7 + (x5_22 + 1)) = Int32.toInt x4_7 + Int32.toInt (x5_22 + 1) := ti_add rfl rfl (by omega) (by omega)
                    exact hk_1 (q, p1, p2, (x3_6 + 1), (x4_7 + (x5_22 + 1))) (show (q = q) ∧ (p1 = p1) ∧ (p2 = p2) ∧ (0 ≤ Int32.toInt (x4_7 + (x5_22 + 1))) ∧ (Int32.toInt (x4_7 + (x5_22 + 1)) ≤ 128) from ⟨rfl, rfl, rfl, by omega, by omega⟩) (show (128 - Int32.toInt (x4_7 + (x5_22 + 1))).toNat < (128 - Int32.toInt x4_7).toNat by omega)
                  · exact dOk_some (show (q = q) from rfl)
                · try have t_77 : Int32.toInt (x4_7 + x7_50) = Int32.toInt x4_7 + Int32.toInt x7_50 := ti_add rfl rfl (by omega) (by omega)
                  refine dOk_G (dg_ok (show 0 ≤ Int32.toInt (x4_7 + x7_50) by omega) (show Int32.toInt (x4_7 + x7_50) < ((128 : Nat) : Int) by omega)) ?_
                  have n_78 : ((Int32.toNatClampNeg (x4_7 + x7_50) : Nat) : Int) = Int32.toInt (x4_7 + x7_50) := cl_eq (by omega)
                  refine dOk_L (fun v_79 ev_79 => ?_)
                  have f_80 : (Int32.toNatClampNeg (x4_7 + x7_50) = 127 → Int32.toInt v_79 = 32) := by intro z9; rw [ev_79, z9, hT.2.2.2 127 (by decide)]; decide
                  try have t_81 : Int32.toInt (p1 + x7_50) = Int32.toInt p1 + Int32.toInt x7_50 := ti_add rfl rfl (by omega) (by omega)
                  refine dOk_G (dg_ok (show 0 ≤ Int32.toInt (p1 + x7_50) by omega) (show Int32.toInt (p1 + x7_50) < ((400 : Nat) : Int) by omega)) ?_
                  have n_82 : ((Int32.toNatClampNeg (p1 + x7_50) : Nat) : Int) = Int32.toInt (p1 + x7_50) := cl_eq (by omega)
                  refine dOk_L (fun v_83 ev_83 => ?_)
                  refine dOk_eq (A := Int32.toInt v_79) (B := Int32.toInt v_83) rfl rfl (fun c_84z c_84 => ?_) (fun c_85z c_85 => ?_)
                  · unfold zX10_wordOf_96
                    try have t_87 : Int32.toInt (x7_50 + 1) = Int32.toInt x7_50 + 1 := ti_add rfl (by decide) (by omega) (by omega)
                    exact hk_41 (q, p1, p2, x3_6, x4_7, x5_22, 1, (x7_50 + 1)) (show (q = q) ∧ (p1 = p1) ∧ (p2 = p2) ∧ (x3_6 = x3_6) ∧ (x4_7 = x4_7) ∧ (x5_22 = x5_22) ∧ (0 ≤ Int32.toInt (x7_50 + 1)) ∧ (Int32.toInt (x7_50 + 1) ≤ Int32.toInt x5_22) ∧ ((1 : Int) = 0 ∨ ((1 : Int) = 1 ∧ Int32.toInt x5_22 = Int32.toInt p2 - Int32.toInt p1)) from ⟨rfl, rfl, rfl, rfl, rfl, rfl, by omega, by omega, by omega⟩) (show (128 - Int32.toInt (x7_50 + 1)).toNat < (128 - Int32.toInt x7_50).toNat by omega)
                  · unfold zX10_wordOf_96
                    try have t_88 : Int32.toInt (x7_50 + 1) = Int32.toInt x7_50 + 1 := ti_add rfl (by decide) (by omega) (by omega)
                    exact hk_41 (q, p1, p2, x3_6, x4_7, x5_22, 0, (x7_50 + 1)) (show (q = q) ∧ (p1 = p1) ∧ (p2 = p2) ∧ (x3_6 = x3_6) ∧ (x4_7 = x4_7) ∧ (x5_22 = x5_22) ∧ (0 ≤ Int32.toInt (x7_50 + 1)) ∧ (Int32.toInt (x7_50 + 1) ≤ Int32.toInt x5_22) ∧ ((0 : Int) = 0 ∨ ((0 : Int) = 1 ∧ Int32.toInt x5_22 = Int32.toInt p2 - Int32.toInt p1)) from ⟨rfl, rfl, rfl, rfl, rfl, rfl, by omega, by omega, by omega⟩) (show (128 - Int32.toInt (x7_50 + 1)).toNat < (128 - Int32.toInt x7_50).toNat by omega)
            · exact (show (q = q) ∧ (p1 = p1) ∧ (p2 = p2) ∧ (x3_6 = x3_6) ∧ (x4_7 = x4_7) ∧ (x5_22 = x5_22) ∧ (0 ≤ (0 : Int)) ∧ ((0 : Int) ≤ Int32.toInt x5_22) ∧ ((1 : Int) = 0 ∨ ((1 : Int) = 1 ∧ Int32.toInt x5_22 = Int32.toInt p2 - Int32.toInt p1)) from ⟨rfl, rfl, rfl, rfl, rfl, rfl, by omega, by omega, by omega⟩)
            · show (128 - (0 : Int)).toNat < 1000000000000
              omega
          · unfold zX10_wordOf_52
            unfold zX10_wordOf_57
            refine dFix_ok (fun (a : dS × Int32 × Int32 × Int32 × Int32 × Int32 × Int32 × Int32) => (a.1 = q) ∧ (a.2.1 = p1) ∧ (a.2.2.1 = p2) ∧ (a.2.2.2.1 = x3_6) ∧ (a.2.2.2.2.1 = x4_7) ∧ (a.2.2.2.2.2.1 = x5_22) ∧ (0 ≤ Int32.toInt a.2.2.2.2.2.2.2) ∧ (Int32.toInt a.2.2.2.2.2.2.2 ≤ Int32.toInt a.2.2.2.2.2.1) ∧ (Int32.toInt a.2.2.2.2.2.2.1 = 0 ∨ (Int32.toInt a.2.2.2.2.2.2.1 = 1 ∧ Int32.toInt a.2.2.2.2.2.1 = Int32.toInt a.2.2.1 - Int32.toInt a.2.1))) (fun (a : dS × Int32 × Int32 × Int32 × Int32 × Int32 × Int32 × Int32) => (128 - Int32.toInt a.2.2.2.2.2.2.2).toNat) ?_ _ ?_ _ (dF_gt ?_)
            · intro a ha k_90 hk_89
              obtain ⟨q_91, x1_92, x2_93, x3_94, x4_95, x5_96, x6_97, x7_98⟩ := a
              replace ha : (q_91 = q) ∧ (x1_92 = p1) ∧ (x2_93 = p2) ∧ (x3_94 = x3_6) ∧ (x4_95 = x4_7) ∧ (x5_96 = x5_22) ∧ (0 ≤ Int32.toInt x7_98) ∧ (Int32.toInt x7_98 ≤ Int32.toInt x5_96) ∧ (Int32.toInt x6_97 = 0 ∨ (Int32.toInt x6_97 = 1 ∧ Int32.toInt x5_96 = Int32.toInt x2_93 - Int32.toInt x1_92)) := ha
              obtain ⟨a_99, a_100, a_101, a_102, a_103, a_104, a_105, a_106, a_107⟩ := ha
              show dOk (zX10_wordOf_57b _ (fun q x1 x2 x3 x4 x5 x6 x7 => k_90 (q, x1, x2, x3, x4, x5, x6, x7)) q_91 x1_92 x2_93 x3_94 x4_95 x5_96 x6_97 x7_98) _
              unfold zX10_wordOf_57b
              subst q_91
              subst x1_92
              subst x2_93
              subst x3_94
              subst x4_95
              subst x5_96
              refine dOk_le (A := Int32.toInt x5_22) (B := Int32.toInt x7_98) rfl rfl (fun c_108 => ?_) (fun c_109 => ?_)
              · unfold zX10_wordOf_104
                refine dOk_eq (A := Int32.toInt x6_97) (B := 0) rfl (by decide) (fun c_110z c_110 => ?_) (fun c_111z c_111 => ?_)
                · try have t_113 : Int32.toInt (x3_6 + 1) = Int32.toInt x3_6 + 1 := ti_add rfl (by decide) (by omega) (by omega)
                  try have t_114 : Int32.toInt (x5_22 + 1) = Int32.toInt x5_22 + 1 := ti_add rfl (by decide) (by omega) (by omega)
                  try have t_115 : Int32.toInt (x4_7 + (x5_22 + 1)) = Int32.toInt x4_7 + Int32.toInt (x5_22 + 1) := ti_add rfl rfl (by omega) (by omega)
                  exact hk_1 (q, p1, p2, (x3_6 + 1), (x4_7 + (x5_22 + 1))) (show (q = q) ∧ (p1 = p1) ∧ (p2 = p2) ∧ (0 ≤ Int32.toInt (x4_7 + (x5_22 + 1))) ∧ (Int32.toInt (x4_7 + (x5_22 + 1)) ≤ 128) from ⟨rfl, rfl, rfl, by omega, by omega⟩) (show (128 - Int32.toInt (x4_7 + (x5_22 + 1))).toNat < (128 - Int32.toInt x4_7).toNat by omega)
                · exact dOk_some (show (q = q) from rfl)
              · refine dOk_eq (A := Int32.toInt x6_97) (B := 0) rfl (by decide) (fun c_116z c_116 => ?_) (fun c_117z c_117 => ?_)
                · unfold zX10_wordOf_104
                  refine dOk_eq (A := Int32.toInt x6_97) (B := 0) rfl (by decide) (fun c_119z c_119 => ?_) (fun c_120z c_120 => ?_)
                  · try have t_122 : Int32.toInt (x3_6 + 1) = Int32.toInt x3_6 + 1 := ti_add rfl (by decide) (by omega) (by omega)
                    try have t_123 : Int32.toInt (x5_22 + 1) = Int32.toInt x5_22 + 1 := ti_add rfl (by decide) (by omega) (by omega)
                    try have t_124 : Int32.toInt (x4_7 + (x5_22 + 1)) = Int32.toInt x4_7 + Int32.toInt (x5_22 + 1) := ti_add rfl rfl (by omega) (by omega)
                    exact hk_1 (q, p1, p2, (x3_6 + 1), (x4_7 + (x5_22 + 1))) (show (q = q) ∧ (p1 = p1) ∧ (p2 = p2) ∧ (0 ≤ Int32.toInt (x4_7 + (x5_22 + 1))) ∧ (Int32.toInt (x4_7 + (x5_22 + 1)) ≤ 128) from ⟨rfl, rfl, rfl, by omega, by omega⟩) (show (128 - Int32.toInt (x4_7 + (x5_22 + 1))).toNat < (128 - Int32.toInt x4_7).toNat by omega)
                  · exact dOk_some (show (q = q) from rfl)
                · try have t_125 : Int32.toInt (x4_7 + x7_98) = Int32.toInt x4_7 + Int32.toInt x7_98 := ti_add rfl rfl (by omega) (by omega)
                  refine dOk_G (dg_ok (show 0 ≤ Int32.toInt (x4_7 + x7_98) by omega) (show Int32.toInt (x4_7 + x7_98) < ((128 : Nat) : Int) by omega)) ?_
                  have n_126 : ((Int32.toNatClampNeg (x4_7 + x7_98) : Nat) : Int) = Int32.toInt (x4_7 + x7_98) := cl_eq (by omega)
                  refine dOk_L (fun v_127 ev_127 => ?_)
                  have f_128 : (Int32.toNatClampNeg (x4_7 + x7_98) = 127 → Int32.toInt v_127 = 32) := by intro z9; rw [ev_127, z9, hT.2.2.2 127 (by decide)]; decide
                  try have t_129 : Int32.toInt (p1 + x7_98) = Int32.toInt p1 + Int32.toInt x7_98 := ti_add rfl rfl (by omega) (by omega)
                  refine dOk_G (dg_ok (show 0 ≤ Int32.toInt (p1 + x7_98) by omega) (show Int32.toInt (p1 + x7_98) < ((400 : Nat) : Int) by omega)) ?_
                  have n_130 : ((Int32.toNatClampNeg (p1 + x7_98) : Nat) : Int) = Int32.toInt (p1 + x7_98) := cl_eq (by omega)
                  refine dOk_L (fun v_131 ev_131 => ?_)
                  refine dOk_eq (A := Int32.toInt v_127) (B := Int32.toInt v_131) rfl rfl (fun c_132z c_132 => ?_) (fun c_133z c_133 => ?_)
                  · unfold zX10_wordOf_96
                    try have t_135 : Int32.toInt (x7_98 + 1) = Int32.toInt x7_98 + 1 := ti_add rfl (by decide) (by omega) (by omega)
                    exact hk_89 (q, p1, p2, x3_6, x4_7, x5_22, 1, (x7_98 + 1)) (show (q = q) ∧ (p1 = p1) ∧ (p2 = p2) ∧ (x3_6 = x3_6) ∧ (x4_7 = x4_7) ∧ (x5_22 = x5_22) ∧ (0 ≤ Int32.toInt (x7_98 + 1)) ∧ (Int32.toInt (x7_98 + 1) ≤ Int32.toInt x5_22) ∧ ((1 : Int) = 0 ∨ ((1 : Int) = 1 ∧ Int32.toInt x5_22 = Int32.toInt p2 - Int32.toInt p1)) from ⟨rfl, rfl, rfl, rfl, rfl, rfl, by omega, by omega, by omega⟩) (show (128 - Int32.toInt (x7_98 + 1)).toNat < (128 - Int32.toInt x7_98).toNat by omega)
                  · unfold zX10_wordOf_96
                    try have t_136 : Int32.toInt (x7_98 + 1) = Int32.toInt x7_98 + 1 := ti_add rfl (by decide) (by omega) (by omega)
                    exact hk_89 (q, p1, p2, x3_6, x4_7, x5_22, 0, (x7_98 + 1)) (show (q = q) ∧ (p1 = p1) ∧ (p2 = p2) ∧ (x3_6 = x3_6) ∧ (x4_7 = x4_7) ∧ (x5_22 = x5_22) ∧ (0 ≤ Int32.toInt (x7_98 + 1)) ∧ (Int32.toInt (x7_98 + 1) ≤ Int32.toInt x5_22) ∧ ((0 : Int) = 0 ∨ ((0 : Int) = 1 ∧ Int32.toInt x5_22 = Int32.toInt p2 - Int32.toInt p1)) from ⟨rfl, rfl, rfl, rfl, rfl, rfl, by omega, by omega, by omega⟩) (show (128 - Int32.toInt (x7_98 + 1)).toNat < (128 - Int32.toInt x7_98).toNat by omega)
            · exact (show (q = q) ∧ (p1 = p1) ∧ (p2 = p2) ∧ (x3_6 = x3_6) ∧ (x4_7 = x4_7) ∧ (x5_22 = x5_22) ∧ (0 ≤ (0 : Int)) ∧ ((0 : Int) ≤ Int32.toInt x5_22) ∧ ((0 : Int) = 0 ∨ ((0 : Int) = 1 ∧ Int32.toInt x5_22 = Int32.toInt p2 - Int32.toInt p1)) from ⟨rfl, rfl, rfl, rfl, rfl, rfl, by omega, by omega, by omega⟩)
            · show (128 - (0 : Int)).toNat < 1000000000000
              omega
        · try have t_137 : Int32.toInt (x5_22 + 1) = Int32.toInt x5_22 + 1 := ti_add rfl (by decide) (by omega) (by omega)
          exact hk_15 (q, p1, p2, x3_6, x4_7, (x5_22 + 1)) (show (q = q) ∧ (p1 = p1) ∧ (p2 = p2) ∧ (x3_6 = x3_6) ∧ (x4_7 = x4_7) ∧ (0 ≤ Int32.toInt (x5_22 + 1)) ∧ (Int32.toInt x4_7 + Int32.toInt (x5_22 + 1) ≤ 127) from ⟨rfl, rfl, rfl, rfl, rfl, by omega, by omega⟩) (show (128 - Int32.toInt (x5_22 + 1)).toNat < (128 - Int32.toInt x5_22).toNat by omega)
      · exact (show (q = q) ∧ (p1 = p1) ∧ (p2 = p2) ∧ (x3_6 = x3_6) ∧ (x4_7 = x4_7) ∧ (0 ≤ (0 : Int)) ∧ (Int32.toInt x4_7 + (0 : Int) ≤ 127) from ⟨rfl, rfl, rfl, rfl, rfl, by omega, by omega⟩)
      · show (128 - (0 : Int)).toNat < 1000000000000
        omega
  · exact (show (q = q) ∧ (p1 = p1) ∧ (p2 = p2) ∧ (0 ≤ (0 : Int)) ∧ ((0 : Int) ≤ 128) from ⟨rfl, rfl, rfl, by omega, by omega⟩)
  · show (128 - (0 : Int)).toNat < 1000000000000
    omega

set_option maxHeartbeats 4000000 in
set_option maxRecDepth 100000 in
theorem ok_isLaw (q : dS) (p1 : Int32) (hT : TS q) : dOk (zX10_isLaw q p1) (fun (o : Int32 × dS) => (o.2 = q) ∧ ((Int32.toInt o.1 = 1 ∧ -1 ≤ Int32.toInt p1 ∧ Int32.toInt p1 < Int32.toInt (q.1 2 31)) ∨ (Int32.toInt o.1 = 0 ∧ (Int32.toInt p1 < -1 ∨ Int32.toInt (q.1 2 31) ≤ Int32.toInt p1)))) := by
  unfold zX10_isLaw
  have f_1 : 0 ≤ Int32.toInt (q.1 2 31) ∧ Int32.toInt (q.1 2 31) ≤ 6 := hT.1 2 31
  try have t_2 : Int32.toInt (q.1 2 31 - 1) = Int32.toInt (q.1 2 31) - 1 := ti_sub rfl (by decide) (by omega) (by omega)
  refine dOk_V (ok_lies p1 (-1) (q.1 2 31 - 1)) (fun r_3 h_4 => ?_)
  replace h_4 : ((Int32.toInt r_3 = 1 ∧ (-1 : Int) ≤ Int32.toInt p1 ∧ Int32.toInt p1 ≤ Int32.toInt (q.1 2 31 - 1)) ∨ (Int32.toInt r_3 = 0 ∧ (Int32.toInt p1 < (-1 : Int) ∨ Int32.toInt (q.1 2 31 - 1) < Int32.toInt p1))) := h_4
  have i_5 := h_4
  refine dOk_G (dbl_ok (show Int32.toInt r_3 = 0 ∨ Int32.toInt r_3 = 1 by omega)) ?_
  exact dOk_some (show (q = q) ∧ ((Int32.toInt r_3 = 1 ∧ -1 ≤ Int32.toInt p1 ∧ Int32.toInt p1 < Int32.toInt (q.1 2 31)) ∨ (Int32.toInt r_3 = 0 ∧ (Int32.toInt p1 < -1 ∨ Int32.toInt (q.1 2 31) ≤ Int32.toInt p1))) from ⟨rfl, by omega⟩)

set_option maxHeartbeats 4000000 in
set_option maxRecDepth 100000 in
theorem ok_force (q : dS) (p1 : Int32) (hT : TS q) : dOk (zX10_force q p1) (fun (o : Int32 × dS) => (TS o.2) ∧ (dFr [1, 2] [0] q o.2) ∧ (Int32.toInt (o.2.1 2 30) = Int32.toInt (q.1 2 30)) ∧ (Int32.toInt (o.2.1 2 26) = Int32.toInt (q.1 2 26))) := by
  unfold zX10_force
  refine dOk_B (ok_isLaw q p1 hT) (fun r_1 q_2 h_3 => ?_)
  replace h_3 : (q_2 = q) ∧ ((Int32.toInt r_1 = 1 ∧ -1 ≤ Int32.toInt p1 ∧ Int32.toInt p1 < Int32.toInt (q.1 2 31)) ∨ (Int32.toInt r_1 = 0 ∧ (Int32.toInt p1 < -1 ∨ Int32.toInt (q.1 2 31) ≤ Int32.toInt p1))) := h_3
  obtain ⟨i_4, i_5⟩ := h_3
  subst q_2
  have f_6 : 0 ≤ Int32.toInt (q.1 2 31) ∧ Int32.toInt (q.1 2 31) ≤ 6 := hT.1 2 31
  refine dOk_eq (A := Int32.toInt r_1) (B := 0) rfl (by decide) (fun c_7z c_7 => ?_) (fun c_8z c_8 => ?_)
  · refine dOk_B (ok_refuses q (-2) hT (show (-6) ≤ (-2 : Int) by omega) (show (-2 : Int) ≤ 0 by omega)) (fun r_10 q_11 h_12 => ?_)
    replace h_12 : (TS q_11) ∧ (dFr [1] [0] q q_11) ∧ (Int32.toInt r_10 = (-2 : Int)) := h_12
    obtain ⟨i_13, i_14, i_15⟩ := h_12
    have hFq_11 : dFr [1, 2] [0] q q_11 := (dFr.rf (q := q)).t i_14 (by decide) (by decide)
    have f_16 : 0 ≤ Int32.toInt (q_11.1 2 30) ∧ Int32.toInt (q_11.1 2 30) ≤ 6 := i_13.1 2 30
    have f_17 : 0 ≤ Int32.toInt (q.1 2 30) ∧ Int32.toInt (q.1 2 30) ≤ 6 := hT.1 2 30
    have w_18 : Int32.toInt (q_11.1 2 30) = Int32.toInt (q.1 2 30) := by rw [i_14.1 2 (by decide) (by decide)]
    have f_19 : 0 ≤ Int32.toInt (q_11.1 2 26) ∧ Int32.toInt (q_11.1 2 26) ≤ 10 := i_13.1 2 26
    have f_20 : 0 ≤ Int32.toInt (q.1 2 26) ∧ Int32.toInt (q.1 2 26) ≤ 10 := hT.1 2 26
    have w_21 : Int32.toInt (q_11.1 2 26) = Int32.toInt (q.1 2 26) := by rw [i_14.1 2 (by decide) (by decide)]
    exact dOk_some (show (TS q_11) ∧ (dFr [1, 2] [0] q q_11) ∧ (Int32.toInt (q_11.1 2 30) = Int32.toInt (q.1 2 30)) ∧ (Int32.toInt (q_11.1 2 26) = Int32.toInt (q.1 2 26)) from ⟨i_13, hFq_11, by omega, by omega⟩)
  · refine dOk_L (fun q_22 eq_22 => ?_)
    have hTq_22 : TS q_22 := by rw [eq_22]; exact ts_force hT (show -1 ≤ Int32.toInt p1 by omega) (show Int32.toInt p1 < Int32.toInt (q.1 2 31) by omega)
    have hFq_22 : dFr [1, 2] [0] q q_22 := by rw [eq_22]; exact (dFr.rf (q := q)).i (by decide) (by decide)
    have f_23 : -1 ≤ Int32.toInt (q.1 2 32) ∧ Int32.toInt (q.1 2 32) ≤ 5 := hT.1 2 32
    have k_24 : Int32.toInt (q.1 2 32) < Int32.toInt (q.1 2 31) := hT.2.1.1
    refine dOk_B (ok_good q_22 (q.1 2 32) hTq_22) (fun r_25 q_26 h_27 => ?_)
    replace h_27 : (TS q_26) ∧ (dFr [] [0] q_22 q_26) ∧ (Int32.toInt r_25 = Int32.toInt (q.1 2 32)) := h_27
    obtain ⟨i_28, i_29, i_30⟩ := h_27
    have hFq_26 : dFr [1, 2] [0] q q_26 := hFq_22.t i_29 (by decide) (by decide)
    have f_31 : 0 ≤ Int32.toInt (q_26.1 2 30) ∧ Int32.toInt (q_26.1 2 30) ≤ 6 := i_28.1 2 30
    have f_32 : 0 ≤ Int32.toInt (q_22.1 2 30) ∧ Int32.toInt (q_22.1 2 30) ≤ 6 := hTq_22.1 2 30
    have f_33 : 0 ≤ Int32.toInt (q.1 2 30) ∧ Int32.toInt (q.1 2 30) ≤ 6 := hT.1 2 30
    have w_34 : Int32.toInt (q_22.1 2 30) = Int32.toInt (q.1 2 30) := by rw [eq_22, dui_n (by decide)]
    have w_35 : Int32.toInt (q_26.1 2 30) = Int32.toInt (q_22.1 2 30) := by rw [i_29.1 2 (by decide) (by decide)]
    have f_36 : 0 ≤ Int32.toInt (q_26.1 2 26) ∧ Int32.toInt (q_26.1 2 26) ≤ 10 := i_28.1 2 26
    have f_37 : 0 ≤ Int32.toInt (q_22.1 2 26) ∧ Int32.toInt (q_22.1 2 26) ≤ 10 := hTq_22.1 2 26
    have f_38 : 0 ≤ Int32.toInt (q.1 2 26) ∧ Int32.toInt (q.1 2 26) ≤ 10 := hT.1 2 26
    have w_39 : Int32.toInt (q_22.1 2 26) = Int32.toInt (q.1 2 26) := by rw [eq_22, dui_n (by decide)]
    have w_40 : Int32.toInt (q_26.1 2 26) = Int32.toInt (q_22.1 2 26) := by rw [i_29.1 2 (by decide) (by decide)]
    exact dOk_some (show (TS q_26) ∧ (dFr [1, 2] [0] q q_26) ∧ (Int32.toInt (q_26.1 2 30) = Int32.toInt (q.1 2 30)) ∧ (Int32.toInt (q_26.1 2 26) = Int32.toInt (q.1 2 26)) from ⟨i_28, hFq_26, by omega, by omega⟩)

set_option maxHeartbeats 4000000 in
set_option maxRecDepth 100000 in
theorem ok_rankBelow (q : dS) (p1 : Int32) (hT : TS q) (hp0 : 0 ≤ Int32.toInt p1) : dOk (zX10_rankBelow q p1) (fun (o : Int32 × dS) => (o.2 = q) ∧ (-1 ≤ Int32.toInt o.1 ∧ Int32.toInt o.1 ≤ 5)) := by
  unfold zX10_rankBelow
  refine dOk_B (ok_size q hT) (fun r_1 q_2 h_3 => ?_)
  replace h_3 : (q_2 = q) ∧ (Int32.toInt r_1 = Int32.toInt (q.1 2 29)) ∧ (0 ≤ Int32.toInt r_1 ∧ Int32.toInt r_1 ≤ 6) := h_3
  obtain ⟨i_4, i_5, i_6⟩ := h_3
  subst q_2
  have f_7 : 0 ≤ Int32.toInt (q.1 2 29) ∧ Int32.toInt (q.1 2 29) ≤ 6 := hT.1 2 29
  refine dOk_le (A := Int32.toInt r_1) (B := Int32.toInt p1) rfl rfl (fun c_8 => ?_) (fun c_9 => ?_)
  · unfold zX10_rankBelow_20
    exact dOk_some (show (q = q) ∧ (-1 ≤ (-1 : Int) ∧ (-1 : Int) ≤ 5) from ⟨rfl, by omega⟩)
  · try have t_10 : Int32.toInt (0 + p1) = 0 + Int32.toInt p1 := ti_add (by decide) rfl (by omega) (by omega)
    refine dOk_G (dg_ok (show 0 ≤ Int32.toInt (0 + p1) by omega) (show Int32.toInt (0 + p1) < ((5640 : Nat) : Int) by omega)) ?_
    have n_11 : ((Int32.toNatClampNeg (0 + p1) : Nat) : Int) = Int32.toInt (0 + p1) := cl_eq (by omega)
    refine dOk_L (fun v_12 ev_12 => ?_)
    try have g_13 : klo (Int32.toNatClampNeg (0 + p1)) ≤ Int32.toInt v_12 ∧ Int32.toInt v_12 ≤ khi (Int32.toNatClampNeg (0 + p1)) := by rw [ev_12]; exact te_k hT _
    try have f_14 : 0 ≤ Int32.toInt v_12 ∧ Int32.toInt v_12 ≤ 5 := by rw [ev_12]; exact te_2r hT (by omega) (by omega)
    try have f_15 : 0 ≤ Int32.toInt v_12 ∧ Int32.toInt v_12 ≤ 1 := by rw [ev_12]; exact te_2h hT (by omega) (by omega)
    try have f_16 : 0 ≤ Int32.toInt v_12 ∧ Int32.toInt v_12 ≤ 5 := by rw [ev_12]; exact te_2s hT (by omega) (by omega)
    try have f_17 : 0 ≤ Int32.toInt v_12 ∧ Int32.toInt v_12 ≤ 400 := by rw [ev_12]; exact te_2z hT (by omega) (by omega)
    unfold zX10_rankBelow_20
    exact dOk_some (show (q = q) ∧ (-1 ≤ Int32.toInt v_12 ∧ Int32.toInt v_12 ≤ 5) from ⟨rfl, by omega⟩)

set_option maxHeartbeats 4000000 in
set_option maxRecDepth 100000 in
theorem ok_setsTurn (q : dS) (p1 : Int32) (p2 : Int32) (p3 : Int32) (p4 : Int32) (hT : TS q) : dOk (zX10_setsTurn q p1 p2 p3 p4) (fun (o : dS) => (TS o) ∧ (dFr [12] [] q o) ∧ (Int32.toInt (o.1 12 0) = Int32.toInt p1)) := by
  unfold zX10_setsTurn
  refine dOk_L (fun q_1 eq_1 => ?_)
  have hTq_1 : TS q_1 := by rw [eq_1]; exact ts_any hT rfl
  have hFq_1 : dFr [12] [] q q_1 := by rw [eq_1]; exact (dFr.rf (q := q)).i (by decide) (by decide)
  refine dOk_L (fun q_2 eq_2 => ?_)
  have hTq_2 : TS q_2 := by rw [eq_2]; exact ts_any hTq_1 rfl
  have hFq_2 : dFr [12] [] q q_2 := by rw [eq_2]; exact hFq_1.i (by decide) (by decide)
  refine dOk_L (fun q_3 eq_3 => ?_)
  have hTq_3 : TS q_3 := by rw [eq_3]; exact ts_any hTq_2 rfl
  have hFq_3 : dFr [12] [] q q_3 := by rw [eq_3]; exact hFq_2.i (by decide) (by decide)
  refine dOk_V (ok_setsAsked q_3 (-1) (-1) p4 hTq_3) (fun q_4 h_5 => ?_)
  replace h_5 : (TS q_4) ∧ (dFr [12] [] q_3 q_4) ∧ (Int32.toInt (q_4.1 12 0) = Int32.toInt (q_3.1 12 0)) ∧ (Int32.toInt (q_4.1 12 1) = Int32.toInt (q_3.1 12 1)) ∧ (Int32.toInt (q_4.1 12 2) = Int32.toInt (q_3.1 12 2)) := h_5
  obtain ⟨i_6, i_7, i_8, i_9, i_10⟩ := h_5
  have hFq_4 : dFr [12] [] q q_4 := hFq_3.t i_7 (by decide) (by decide)
  have w_11 : Int32.toInt (q_1.1 12 0) = Int32.toInt p1 := by rw [eq_1, dui_e]
  have w_12 : Int32.toInt (q_2.1 12 0) = Int32.toInt (q_1.1 12 0) := by rw [eq_2, dui_n (by decide)]
  have w_13 : Int32.toInt (q_3.1 12 0) = Int32.toInt (q_2.1 12 0) := by rw [eq_3, dui_n (by decide)]
  have w_14 : Int32.toInt (q_2.1 12 1) = Int32.toInt p2 := by rw [eq_2, dui_e]
  have w_15 : Int32.toInt (q_3.1 12 1) = Int32.toInt (q_2.1 12 1) := by rw [eq_3, dui_n (by decide)]
  have w_16 : Int32.toInt (q_3.1 12 2) = Int32.toInt p3 := by rw [eq_3, dui_e]
  exact dOk_some (show (TS q_4) ∧ (dFr [12] [] q q_4) ∧ (Int32.toInt (q_4.1 12 0) = Int32.toInt p1) from ⟨i_6, hFq_4, by omega⟩)

set_option maxHeartbeats 4000000 in
set_option maxRecDepth 100000 in
theorem ok_exchanges (q : dS) (p1 : Int32) (p2 : Int32) (hT : TS q) (hp0 : 0 ≤ Int32.toInt p1 ∧ Int32.toInt p1 ≤ 5) (hp1 : 0 ≤ Int32.toInt p2 ∧ Int32.toInt p2 ≤ 5) : dOk (zX10_exchanges q p1 p2) (fun (o : dS) => (TS o) ∧ (dFk [2] [] q o) ∧ (Int32.toInt (o.1 2 12) = Int32.toInt (q.1 2 12)) ∧ (Int32.toInt (o.1 2 13) = Int32.toInt (q.1 2 13)) ∧ (Int32.toInt (o.1 2 29) = Int32.toInt (q.1 2 29))) := by
  unfold zX10_exchanges
  try have t_1 : Int32.toInt (0 + p1) = 0 + Int32.toInt p1 := ti_add (by decide) rfl (by omega) (by omega)
  refine dOk_G (dg_ok (show 0 ≤ Int32.toInt (0 + p1) by omega) (show Int32.toInt (0 + p1) < ((5640 : Nat) : Int) by omega)) ?_
  have n_2 : ((Int32.toNatClampNeg (0 + p1) : Nat) : Int) = Int32.toInt (0 + p1) := cl_eq (by omega)
  refine dOk_L (fun v_3 ev_3 => ?_)
  try have g_4 : klo (Int32.toNatClampNeg (0 + p1)) ≤ Int32.toInt v_3 ∧ Int32.toInt v_3 ≤ khi (Int32.toNatClampNeg (0 + p1)) := by rw [ev_3]; exact te_k hT _
  try have f_5 : 0 ≤ Int32.toInt v_3 ∧ Int32.toInt v_3 ≤ 5 := by rw [ev_3]; exact te_2r hT (by omega) (by omega)
  try have f_6 : 0 ≤ Int32.toInt v_3 ∧ Int32.toInt v_3 ≤ 1 := by rw [ev_3]; exact te_2h hT (by omega) (by omega)
  try have f_7 : 0 ≤ Int32.toInt v_3 ∧ Int32.toInt v_3 ≤ 5 := by rw [ev_3]; exact te_2s hT (by omega) (by omega)
  try have f_8 : 0 ≤ Int32.toInt v_3 ∧ Int32.toInt v_3 ≤ 400 := by rw [ev_3]; exact te_2z hT (by omega) (by omega)
  try have t_9 : Int32.toInt (6 + p1) = 6 + Int32.toInt p1 := ti_add (by decide) rfl (by omega) (by omega)
  refine dOk_G (dg_ok (show 0 ≤ Int32.toInt (6 + p1) by omega) (show Int32.toInt (6 + p1) < ((5640 : Nat) : Int) by omega)) ?_
  have n_10 : ((Int32.toNatClampNeg (6 + p1) : Nat) : Int) = Int32.toInt (6 + p1) := cl_eq (by omega)
  refine dOk_L (fun v_11 ev_11 => ?_)
  try have g_12 : klo (Int32.toNatClampNeg (6 + p1)) ≤ Int32.toInt v_11 ∧ Int32.toInt v_11 ≤ khi (Int32.toNatClampNeg (6 + p1)) := by rw [ev_11]; exact te_k hT _
  try have f_13 : 0 ≤ Int32.toInt v_11 ∧ Int32.toInt v_11 ≤ 5 := by rw [ev_11]; exact te_2r hT (by omega) (by omega)
  try have f_14 : 0 ≤ Int32.toInt v_11 ∧ Int32.toInt v_11 ≤ 1 := by rw [ev_11]; exact te_2h hT (by omega) (by omega)
  try have f_15 : 0 ≤ Int32.toInt v_11 ∧ Int32.toInt v_11 ≤ 5 := by rw [ev_11]; exact te_2s hT (by omega) (by omega)
  try have f_16 : 0 ≤ Int32.toInt v_11 ∧ Int32.toInt v_11 ≤ 400 := by rw [ev_11]; exact te_2z hT (by omega) (by omega)
  try have t_17 : Int32.toInt (0 + p2) = 0 + Int32.toInt p2 := ti_add (by decide) rfl (by omega) (by omega)
  refine dOk_G (dg_ok (show 0 ≤ Int32.toInt (0 + p2) by omega) (show Int32.toInt (0 + p2) < ((5640 : Nat) : Int) by omega)) ?_
  have n_18 : ((Int32.toNatClampNeg (0 + p2) : Nat) : Int) = Int32.toInt (0 + p2) := cl_eq (by omega)
  refine dOk_L (fun v_19 ev_19 => ?_)
  try have g_20 : klo (Int32.toNatClampNeg (0 + p2)) ≤ Int32.toInt v_19 ∧ Int32.toInt v_19 ≤ khi (Int32.toNatClampNeg (0 + p2)) := by rw [ev_19]; exact te_k hT _
  try have f_21 : 0 ≤ Int32.toInt v_19 ∧ Int32.toInt v_19 ≤ 5 := by rw [ev_19]; exact te_2r hT (by omega) (by omega)
  try have f_22 : 0 ≤ Int32.toInt v_19 ∧ Int32.toInt v_19 ≤ 1 := by rw [ev_19]; exact te_2h hT (by omega) (by omega)
  try have f_23 : 0 ≤ Int32.toInt v_19 ∧ Int32.toInt v_19 ≤ 5 := by rw [ev_19]; exact te_2s hT (by omega) (by omega)
  try have f_24 : 0 ≤ Int32.toInt v_19 ∧ Int32.toInt v_19 ≤ 400 := by rw [ev_19]; exact te_2z hT (by omega) (by omega)
  refine dOk_G (dg_ok (show 0 ≤ Int32.toInt (0 + p1) by omega) (show Int32.toInt (0 + p1) < ((5640 : Nat) : Int) by omega)) ?_
  refine dOk_L (fun q_25 eq_25 => ?_)
  have hTq_25 : TS q_25 := by rw [eq_25]; first | exact ts_2c hT (by omega) (show Int32.toNatClampNeg (0 + p1) = Int32.toNatClampNeg (0 + p2) by omega) g_20 | exact ts_set2 hT (by omega) (show klo (Int32.toNatClampNeg (0 + p1)) ≤ Int32.toInt v_19 by unfold klo; omega) (show Int32.toInt v_19 ≤ khi (Int32.toNatClampNeg (0 + p1)) by unfold khi; omega)
  have hFq_25 : dFk [2] [] q q_25 := by rw [eq_25]; exact (dFk.rf (q := q)).k (by omega) (by decide)
  try have t_26 : Int32.toInt (6 + p2) = 6 + Int32.toInt p2 := ti_add (by decide) rfl (by omega) (by omega)
  refine dOk_G (dg_ok (show 0 ≤ Int32.toInt (6 + p2) by omega) (show Int32.toInt (6 + p2) < ((5640 : Nat) : Int) by omega)) ?_
  have n_27 : ((Int32.toNatClampNeg (6 + p2) : Nat) : Int) = Int32.toInt (6 + p2) := cl_eq (by omega)
  refine dOk_L (fun v_28 ev_28 => ?_)
  try have g_29 : klo (Int32.toNatClampNeg (6 + p2)) ≤ Int32.toInt v_28 ∧ Int32.toInt v_28 ≤ khi (Int32.toNatClampNeg (6 + p2)) := by rw [ev_28]; exact te_k hTq_25 _
  try have f_30 : 0 ≤ Int32.toInt v_28 ∧ Int32.toInt v_28 ≤ 5 := by rw [ev_28]; exact te_2r hTq_25 (by omega) (by omega)
  try have f_31 : 0 ≤ Int32.toInt v_28 ∧ Int32.toInt v_28 ≤ 1 := by rw [ev_28]; exact te_2h hTq_25 (by omega) (by omega)
  try have f_32 : 0 ≤ Int32.toInt v_28 ∧ Int32.toInt v_28 ≤ 5 := by rw [ev_28]; exact te_2s hTq_25 (by omega) (by omega)
  try have f_33 : 0 ≤ Int32.toInt v_28 ∧ Int32.toInt v_28 ≤ 400 := by rw [ev_28]; exact te_2z hTq_25 (by omega) (by omega)
  refine dOk_G (dg_ok (show 0 ≤ Int32.toInt (6 + p1) by omega) (show Int32.toInt (6 + p1) < ((5640 : Nat) : Int) by omega)) ?_
  refine dOk_L (fun q_34 eq_34 => ?_)
  have hTq_34 : TS q_34 := by rw [eq_34]; first | exact ts_2c hTq_25 (by omega) (show Int32.toNatClampNeg (6 + p1) = Int32.toNatClampNeg (6 + p2) by omega) g_29 | exact ts_set2 hTq_25 (by omega) (show klo (Int32.toNatClampNeg (6 + p1)) ≤ Int32.toInt v_28 by unfold klo; omega) (show Int32.toInt v_28 ≤ khi (Int32.toNatClampNeg (6 + p1)) by unfold khi; omega)
  have hFq_34 : dFk [2] [] q q_34 := by rw [eq_34]; exact hFq_25.k (by omega) (by decide)
  refine dOk_G (dg_ok (show 0 ≤ Int32.toInt (0 + p2) by omega) (show Int32.toInt (0 + p2) < ((5640 : Nat) : Int) by omega)) ?_
  refine dOk_L (fun q_35 eq_35 => ?_)
  have hTq_35 : TS q_35 := by rw [eq_35]; first | exact ts_2c hTq_34 (by omega) (show Int32.toNatClampNeg (0 + p2) = Int32.toNatClampNeg (0 + p1) by omega) g_4 | exact ts_set2 hTq_34 (by omega) (show klo (Int32.toNatClampNeg (0 + p2)) ≤ Int32.toInt v_3 by unfold klo; omega) (show Int32.toInt v_3 ≤ khi (Int32.toNatClampNeg (0 + p2)) by unfold khi; omega)
  have hFq_35 : dFk [2] [] q q_35 := by rw [eq_35]; exact hFq_34.k (by omega) (by decide)
  refine dOk_G (dg_ok (show 0 ≤ Int32.toInt (6 + p2) by omega) (show Int32.toInt (6 + p2) < ((5640 : Nat) : Int) by omega)) ?_
  refine dOk_L (fun q_36 eq_36 => ?_)
  have hTq_36 : TS q_36 := by rw [eq_36]; first | exact ts_2c hTq_35 (by omega) (show Int32.toNatClampNeg (6 + p2) = Int32.toNatClampNeg (6 + p1) by omega) g_12 | exact ts_set2 hTq_35 (by omega) (show klo (Int32.toNatClampNeg (6 + p2)) ≤ Int32.toInt v_11 by unfold klo; omega) (show Int32.toInt v_11 ≤ khi (Int32.toNatClampNeg (6 + p2)) by unfold khi; omega)
  have hFq_36 : dFk [2] [] q q_36 := by rw [eq_36]; exact hFq_35.k (by omega) (by decide)
  have f_37 : 0 ≤ Int32.toInt (q_36.1 2 12) ∧ Int32.toInt (q_36.1 2 12) ≤ 9999 := hTq_36.1 2 12
  have f_38 : 0 ≤ Int32.toInt (q_35.1 2 12) ∧ Int32.toInt (q_35.1 2 12) ≤ 9999 := hTq_35.1 2 12
  have f_39 : 0 ≤ Int32.toInt (q_34.1 2 12) ∧ Int32.toInt (q_34.1 2 12) ≤ 9999 := hTq_34.1 2 12
  have f_40 : 0 ≤ Int32.toInt (q_25.1 2 12) ∧ Int32.toInt (q_25.1 2 12) ≤ 9999 := hTq_25.1 2 12
  have f_41 : 0 ≤ Int32.toInt (q.1 2 12) ∧ Int32.toInt (q.1 2 12) ≤ 9999 := hT.1 2 12
  try have w_42 : Int32.toInt (q_25.1 2 12) = Int32.toInt (q.1 2 12) := by rw [eq_25, dui_n (by omega)]
  try have w_43 : Int32.toInt (q_34.1 2 12) = Int32.toInt (q_25.1 2 12) := by rw [eq_34, dui_n (by omega)]
  try have w_44 : Int32.toInt (q_35.1 2 12) = Int32.toInt (q_34.1 2 12) := by rw [eq_35, dui_n (by omega)]
  try have w_45 : Int32.toInt (q_36.1 2 12) = Int32.toInt (q_35.1 2 12) := by rw [eq_36, dui_n (by omega)]
  have f_46 : 0 ≤ Int32.toInt (q_36.1 2 13) ∧ Int32.toInt (q_36.1 2 13) ≤ 999 := hTq_36.1 2 13
  have f_47 : 0 ≤ Int32.toInt (q_35.1 2 13) ∧ Int32.toInt (q_35.1 2 13) ≤ 999 := hTq_35.1 2 13
  have f_48 : 0 ≤ Int32.toInt (q_34.1 2 13) ∧ Int32.toInt (q_34.1 2 13) ≤ 999 := hTq_34.1 2 13
  have f_49 : 0 ≤ Int32.toInt (q_25.1 2 13) ∧ Int32.toInt (q_25.1 2 13) ≤ 999 := hTq_25.1 2 13
  have f_50 : 0 ≤ Int32.toInt (q.1 2 13) ∧ Int32.toInt (q.1 2 13) ≤ 999 := hT.1 2 13
  try have w_51 : Int32.toInt (q_25.1 2 13) = Int32.toInt (q.1 2 13) := by rw [eq_25, dui_n (by omega)]
  try have w_52 : Int32.toInt (q_34.1 2 13) = Int32.toInt (q_25.1 2 13) := by rw [eq_34, dui_n (by omega)]
  try have w_53 : Int32.toInt (q_35.1 2 13) = Int32.toInt (q_34.1 2 13) := by rw [eq_35, dui_n (by omega)]
  try have w_54 : Int32.toInt (q_36.1 2 13) = Int32.toInt (q_35.1 2 13) := by rw [eq_36, dui_n (by omega)]
  have f_55 : 0 ≤ Int32.toInt (q_36.1 2 29) ∧ Int32.toInt (q_36.1 2 29) ≤ 6 := hTq_36.1 2 29
  have f_56 : 0 ≤ Int32.toInt (q_35.1 2 29) ∧ Int32.toInt (q_35.1 2 29) ≤ 6 := hTq_35.1 2 29
  have f_57 : 0 ≤ Int32.toInt (q_34.1 2 29) ∧ Int32.toInt (q_34.1 2 29) ≤ 6 := hTq_34.1 2 29
  have f_58 : 0 ≤ Int32.toInt (q_25.1 2 29) ∧ Int32.toInt (q_25.1 2 29) ≤ 6 := hTq_25.1 2 29
  have f_59 : 0 ≤ Int32.toInt (q.1 2 29) ∧ Int32.toInt (q.1 2 29) ≤ 6 := hT.1 2 29
  try have w_60 : Int32.toInt (q_25.1 2 29) = Int32.toInt (q.1 2 29) := by rw [eq_25, dui_n (by omega)]
  try have w_61 : Int32.toInt (q_34.1 2 29) = Int32.toInt (q_25.1 2 29) := by rw [eq_34, dui_n (by omega)]
  try have w_62 : Int32.toInt (q_35.1 2 29) = Int32.toInt (q_34.1 2 29) := by rw [eq_35, dui_n (by omega)]
  try have w_63 : Int32.toInt (q_36.1 2 29) = Int32.toInt (q_35.1 2 29) := by rw [eq_36, dui_n (by omega)]
  exact dOk_some (show (TS q_36) ∧ (dFk [2] [] q q_36) ∧ (Int32.toInt (q_36.1 2 12) = Int32.toInt (q.1 2 12)) ∧ (Int32.toInt (q_36.1 2 13) = Int32.toInt (q.1 2 13)) ∧ (Int32.toInt (q_36.1 2 29) = Int32.toInt (q.1 2 29)) from ⟨hTq_36, hFq_36, by omega, by omega, by omega⟩)
end
section
set_option maxHeartbeats 4000000 in
set_option maxRecDepth 100000 in
theorem ok_keeps (q : dS) (p1 : Int32) (hT : TS q) : dOk (zX10_keeps q p1) (fun (o : dS) => (TS o) ∧ (dFr [14] [32] q o)) := by
  unfold zX10_keeps
  have f_1 : 0 ≤ Int32.toInt (q.1 0 32) ∧ Int32.toInt (q.1 0 32) ≤ 16 := hT.1 0 32
  refine dOk_eq (A := Int32.toInt (q.1 0 32)) (B := 16) rfl (by decide) (fun c_2z c_2 => ?_) (fun c_3z c_3 => ?_)
  · unfold zX10_keeps_14
    refine dFix_ok (fun (a : dS × Int32 × Int32 × Int32) => (TS a.1) ∧ (dFr [14] [] q a.1) ∧ (a.2.1 = p1) ∧ (a.2.2.1 = 15) ∧ (0 ≤ Int32.toInt a.2.2.2) ∧ (Int32.toInt a.2.2.2 ≤ 225)) (fun (a : dS × Int32 × Int32 × Int32) => (225 - Int32.toInt a.2.2.2).toNat) ?_ _ ?_ _ (dF_gt ?_)
    · intro a ha k_6 hk_5
      obtain ⟨q_7, x1_8, x2_9, x3_10⟩ := a
      replace ha : (TS q_7) ∧ (dFr [14] [] q q_7) ∧ (x1_8 = p1) ∧ (x2_9 = 15) ∧ (0 ≤ Int32.toInt x3_10) ∧ (Int32.toInt x3_10 ≤ 225) := ha
      obtain ⟨a_11, a_12, a_13, a_14, a_15, a_16⟩ := ha
      show dOk (zX10_keeps_14b  (fun q x1 x2 x3 => k_6 (q, x1, x2, x3)) q_7 x1_8 x2_9 x3_10) _
      unfold zX10_keeps_14b
      have hFq_7 : dFr [14] [32] q q_7 := (dFr.rf (q := q)).t a_12 (by decide) (by decide)
      subst x1_8
      subst x2_9
      try have t_17 : Int32.toInt (15 * 15) = 15 * 15 := ti_mul (by decide) (by decide) (by omega) (by omega)
      refine dOk_le (A := Int32.toInt (15 * 15)) (B := Int32.toInt x3_10) rfl rfl (fun c_18 => ?_) (fun c_19 => ?_)
      · refine dOk_L (fun q_20 eq_20 => ?_)
        have f_21 : 0 ≤ Int32.toInt (q_7.1 0 32) ∧ Int32.toInt (q_7.1 0 32) ≤ 16 := a_11.1 0 32
        have w_22 : Int32.toInt (q_7.1 0 32) = Int32.toInt (q.1 0 32) := by rw [a_12.2 32 (by decide)]
        try have t_23 : Int32.toInt (q_7.1 0 32 - 1) = Int32.toInt (q_7.1 0 32) - 1 := ti_sub rfl (by decide) (by omega) (by omega)
        have hTq_20 : TS q_20 := by rw [eq_20]; exact ts_f a_11 (show 0 ≤ Int32.toInt (q_7.1 0 32 - 1) by omega) (show Int32.toInt (q_7.1 0 32 - 1) ≤ 16 by omega)
        have hFq_20 : dFr [14] [32] q q_20 := by rw [eq_20]; exact hFq_7.f (by decide)
        unfold zX10_keeps_52
        unfold zX10_keeps_54
        refine dFix_ok (fun (a : dS × Int32 × Int32 × Int32) => (TS a.1) ∧ (dFr [14] [] q_20 a.1) ∧ (a.2.1 = p1) ∧ (a.2.2.1 = 15) ∧ (0 ≤ Int32.toInt a.2.2.2) ∧ (Int32.toInt a.2.2.2 ≤ 14)) (fun (a : dS × Int32 × Int32 × Int32) => (14 - Int32.toInt a.2.2.2).toNat) ?_ _ ?_ _ (dF_gt ?_)
        · intro a ha k_25 hk_24
          obtain ⟨q_26, x1_27, x2_28, x3_29⟩ := a
          replace ha : (TS q_26) ∧ (dFr [14] [] q_20 q_26) ∧ (x1_27 = p1) ∧ (x2_28 = 15) ∧ (0 ≤ Int32.toInt x3_29) ∧ (Int32.toInt x3_29 ≤ 14) := ha
          obtain ⟨a_30, a_31, a_32, a_33, a_34, a_35⟩ := ha
          show dOk (zX10_keeps_54b  (fun q x1 x2 x3 => k_25 (q, x1, x2, x3)) q_26 x1_27 x2_28 x3_29) _
          unfold zX10_keeps_54b
          have hFq_26 : dFr [14] [32] q q_26 := hFq_20.t a_31 (by decide) (by decide)
          subst x1_27
          subst x2_28
          refine dOk_le (A := 14) (B := Int32.toInt x3_29) (by decide) rfl (fun c_36 => ?_) (fun c_37 => ?_)
          · have f_38 : 0 ≤ Int32.toInt (q_26.1 0 32) ∧ Int32.toInt (q_26.1 0 32) ≤ 16 := a_30.1 0 32
            have f_39 : 0 ≤ Int32.toInt (q_20.1 0 32) ∧ Int32.toInt (q_20.1 0 32) ≤ 16 := hTq_20.1 0 32
            have w_40 : Int32.toInt (q_20.1 0 32) = Int32.toInt (q_7.1 0 32 - 1) := by rw [eq_20, dui_e]
            have w_41 : Int32.toInt (q_26.1 0 32) = Int32.toInt (q_20.1 0 32) := by rw [a_31.2 32 (by decide)]
            try have t_42 : Int32.toInt (15 * q_26.1 0 32) = 15 * Int32.toInt (q_26.1 0 32) := ti_mul (by decide) rfl (by omega) (by omega)
            try have t_43 : Int32.toInt (15 * q_26.1 0 32 + 14) = Int32.toInt (15 * q_26.1 0 32) + 14 := ti_add rfl (by decide) (by omega) (by omega)
            refine dOk_G (dg_ok (show 0 ≤ Int32.toInt (15 * q_26.1 0 32 + 14) by omega) (show Int32.toInt (15 * q_26.1 0 32 + 14) < ((240 : Nat) : Int) by omega)) ?_
            have n_44 : ((Int32.toNatClampNeg (15 * q_26.1 0 32 + 14) : Nat) : Int) = Int32.toInt (15 * q_26.1 0 32 + 14) := cl_eq (by omega)
            refine dOk_L (fun q_45 eq_45 => ?_)
            have hTq_45 : TS q_45 := by rw [eq_45]; first | exact ts_set a_30 (by decide) (by simp only [tlo, klo]; omega) (by simp only [thi, khi]; omega) | exact ts_14x a_30 (by omega)
            have hFq_45 : dFr [14] [32] q q_45 := by rw [eq_45]; exact hFq_26.i (by decide) (by decide)
            refine dOk_L (fun q_46 eq_46 => ?_)
            have f_47 : 0 ≤ Int32.toInt (q_45.1 0 32) ∧ Int32.toInt (q_45.1 0 32) ≤ 16 := hTq_45.1 0 32
            try have w_48 : Int32.toInt (q_45.1 0 32) = Int32.toInt (q_26.1 0 32) := by rw [eq_45, dui_o (by decide)]
            try have t_49 : Int32.toInt (q_45.1 0 32 + 1) = Int32.toInt (q_45.1 0 32) + 1 := ti_add rfl (by decide) (by omega) (by omega)
            have hTq_46 : TS q_46 := by rw [eq_46]; exact ts_f hTq_45 (show 0 ≤ Int32.toInt (q_45.1 0 32 + 1) by omega) (show Int32.toInt (q_45.1 0 32 + 1) ≤ 16 by omega)
            have hFq_46 : dFr [14] [32] q q_46 := by rw [eq_46]; exact hFq_45.f (by decide)
            exact dOk_some (show (TS q_46) ∧ (dFr [14] [32] q q_46) from ⟨hTq_46, hFq_46⟩)
          · refine dOk_G (dg_ok (show 0 ≤ Int32.toInt x3_29 by omega) (show Int32.toInt x3_29 < ((5640 : Nat) : Int) by omega)) ?_
            have n_50 : ((Int32.toNatClampNeg x3_29 : Nat) : Int) = Int32.toInt x3_29 := cl_eq (by omega)
            refine dOk_L (fun v_51 ev_51 => ?_)
            try have g_52 : klo (Int32.toNatClampNeg x3_29) ≤ Int32.toInt v_51 ∧ Int32.toInt v_51 ≤ khi (Int32.toNatClampNeg x3_29) := by rw [ev_51]; exact te_k a_30 _
            try have f_53 : 0 ≤ Int32.toInt v_51 ∧ Int32.toInt v_51 ≤ 5 := by rw [ev_51]; exact te_2r a_30 (by omega) (by omega)
            try have f_54 : 0 ≤ Int32.toInt v_51 ∧ Int32.toInt v_51 ≤ 1 := by rw [ev_51]; exact te_2h a_30 (by omega) (by omega)
            try have f_55 : 0 ≤ Int32.toInt v_51 ∧ Int32.toInt v_51 ≤ 5 := by rw [ev_51]; exact te_2s a_30 (by omega) (by omega)
            try have f_56 : 0 ≤ Int32.toInt v_51 ∧ Int32.toInt v_51 ≤ 400 := by rw [ev_51]; exact te_2z a_30 (by omega) (by omega)
            have f_57 : 0 ≤ Int32.toInt (q_26.1 0 32) ∧ Int32.toInt (q_26.1 0 32) ≤ 16 := a_30.1 0 32
            have f_58 : 0 ≤ Int32.toInt (q_20.1 0 32) ∧ Int32.toInt (q_20.1 0 32) ≤ 16 := hTq_20.1 0 32
            have w_59 : Int32.toInt (q_20.1 0 32) = Int32.toInt (q_7.1 0 32 - 1) := by rw [eq_20, dui_e]
            have w_60 : Int32.toInt (q_26.1 0 32) = Int32.toInt (q_20.1 0 32) := by rw [a_31.2 32 (by decide)]
            try have t_61 : Int32.toInt (15 * q_26.1 0 32) = 15 * Int32.toInt (q_26.1 0 32) := ti_mul (by decide) rfl (by omega) (by omega)
            try have t_62 : Int32.toInt (15 * q_26.1 0 32 + x3_29) = Int32.toInt (15 * q_26.1 0 32) + Int32.toInt x3_29 := ti_add rfl rfl (by omega) (by omega)
            refine dOk_G (dg_ok (show 0 ≤ Int32.toInt (15 * q_26.1 0 32 + x3_29) by omega) (show Int32.toInt (15 * q_26.1 0 32 + x3_29) < ((240 : Nat) : Int) by omega)) ?_
            have n_63 : ((Int32.toNatClampNeg (15 * q_26.1 0 32 + x3_29) : Nat) : Int) = Int32.toInt (15 * q_26.1 0 32 + x3_29) := cl_eq (by omega)
            refine dOk_L (fun q_64 eq_64 => ?_)
            have hTq_64 : TS q_64 := by rw [eq_64]; first | exact ts_14 a_30 (show (Int32.toNatClampNeg (15 * q_26.1 0 32 + x3_29)) % 15 = Int32.toNatClampNeg x3_29 by omega) (by omega) g_52 | exact ts_set a_30 (by decide) (by simp only [tlo, klo]; omega) (by simp only [thi, khi]; omega) | exact ts_14x a_30 (by omega)
            have hFq_64 : dFr [14] [32] q q_64 := by rw [eq_64]; exact hFq_26.i (by decide) (by decide)
            try have t_65 : Int32.toInt (x3_29 + 1) = Int32.toInt x3_29 + 1 := ti_add rfl (by decide) (by omega) (by omega)
            exact hk_24 (q_64, p1, 15, (x3_29 + 1)) (show (TS q_64) ∧ (dFr [14] [] q_20 q_64) ∧ (p1 = p1) ∧ (15 = 15) ∧ (0 ≤ Int32.toInt (x3_29 + 1)) ∧ (Int32.toInt (x3_29 + 1) ≤ 14) from ⟨hTq_64, (by rw [eq_64]; exact (((dFr.rf : dFr [14] [] q_20 q_20).t a_31 (by decide) (by decide)) : dFr [14] [] q_20 q_26).i (by decide) (by decide)), rfl, rfl, by omega, by omega⟩) (show (14 - Int32.toInt (x3_29 + 1)).toNat < (14 - Int32.toInt x3_29).toNat by omega)
        · exact (show (TS q_20) ∧ (dFr [14] [] q_20 q_20) ∧ (p1 = p1) ∧ (15 = 15) ∧ (0 ≤ (0 : Int)) ∧ ((0 : Int) ≤ 14) from ⟨hTq_20, dFr.rf, rfl, rfl, by omega, by omega⟩)
        · show (14 - (0 : Int)).toNat < 1000000000000
          omega
      · try have t_66 : Int32.toInt (x3_10 + 15) = Int32.toInt x3_10 + 15 := ti_add rfl (by decide) (by omega) (by omega)
        refine dOk_G (dg_ok (show 0 ≤ Int32.toInt (x3_10 + 15) by omega) (show Int32.toInt (x3_10 + 15) < ((240 : Nat) : Int) by omega)) ?_
        have n_67 : ((Int32.toNatClampNeg (x3_10 + 15) : Nat) : Int) = Int32.toInt (x3_10 + 15) := cl_eq (by omega)
        refine dOk_L (fun v_68 ev_68 => ?_)
        try have g_69 : klo ((Int32.toNatClampNeg (x3_10 + 15)) % 15) ≤ Int32.toInt v_68 ∧ Int32.toInt v_68 ≤ khi ((Int32.toNatClampNeg (x3_10 + 15)) % 15) := by rw [ev_68]; exact te_14 a_11 (by omega)
        refine dOk_G (dg_ok (show 0 ≤ Int32.toInt x3_10 by omega) (show Int32.toInt x3_10 < ((240 : Nat) : Int) by omega)) ?_
        have n_70 : ((Int32.toNatClampNeg x3_10 : Nat) : Int) = Int32.toInt x3_10 := cl_eq (by omega)
        refine dOk_L (fun q_71 eq_71 => ?_)
        have hTq_71 : TS q_71 := by rw [eq_71]; exact ts_cp (s := Int32.toNatClampNeg (x3_10 + 15)) 14 14 (by decide) (by decide) a_11 a_11 (by omega) ev_68
        have hFq_71 : dFr [14] [32] q q_71 := by rw [eq_71]; exact hFq_7.i (by decide) (by decide)
        try have t_72 : Int32.toInt (x3_10 + 1) = Int32.toInt x3_10 + 1 := ti_add rfl (by decide) (by omega) (by omega)
        exact hk_5 (q_71, p1, 15, (x3_10 + 1)) (show (TS q_71) ∧ (dFr [14] [] q q_71) ∧ (p1 = p1) ∧ (15 = 15) ∧ (0 ≤ Int32.toInt (x3_10 + 1)) ∧ (Int32.toInt (x3_10 + 1) ≤ 225) from ⟨hTq_71, (by rw [eq_71]; exact (((dFr.rf : dFr [14] [] q q).t a_12 (by decide) (by decide)) : dFr [14] [] q q_7).i (by decide) (by decide)), rfl, rfl, by omega, by omega⟩) (show (225 - Int32.toInt (x3_10 + 1)).toNat < (225 - Int32.toInt x3_10).toNat by omega)
    · exact (show (TS q) ∧ (dFr [14] [] q q) ∧ (p1 = p1) ∧ (15 = 15) ∧ (0 ≤ (0 : Int)) ∧ ((0 : Int) ≤ 225) from ⟨hT, dFr.rf, rfl, rfl, by omega, by omega⟩)
    · show (225 - (0 : Int)).toNat < 1000000000000
      omega
  · unfold zX10_keeps_52
    unfold zX10_keeps_54
    refine dFix_ok (fun (a : dS × Int32 × Int32 × Int32) => (TS a.1) ∧ (dFr [14] [] q a.1) ∧ (a.2.1 = p1) ∧ (a.2.2.1 = 15) ∧ (0 ≤ Int32.toInt a.2.2.2) ∧ (Int32.toInt a.2.2.2 ≤ 14)) (fun (a : dS × Int32 × Int32 × Int32) => (14 - Int32.toInt a.2.2.2).toNat) ?_ _ ?_ _ (dF_gt ?_)
    · intro a ha k_74 hk_73
      obtain ⟨q_75, x1_76, x2_77, x3_78⟩ := a
      replace ha : (TS q_75) ∧ (dFr [14] [] q q_75) ∧ (x1_76 = p1) ∧ (x2_77 = 15) ∧ (0 ≤ Int32.toInt x3_78) ∧ (Int32.toInt x3_78 ≤ 14) := ha
      obtain ⟨a_79, a_80, a_81, a_82, a_83, a_84⟩ := ha
      show dOk (zX10_keeps_54b  (fun q x1 x2 x3 => k_74 (q, x1, x2, x3)) q_75 x1_76 x2_77 x3_78) _
      unfold zX10_keeps_54b
      have hFq_75 : dFr [14] [32] q q_75 := (dFr.rf (q := q)).t a_80 (by decide) (by decide)
      subst x1_76
      subst x2_77
      refine dOk_le (A := 14) (B := Int32.toInt x3_78) (by decide) rfl (fun c_85 => ?_) (fun c_86 => ?_)
      · have f_87 : 0 ≤ Int32.toInt (q_75.1 0 32) ∧ Int32.toInt (q_75.1 0 32) ≤ 16 := a_79.1 0 32
        have w_88 : Int32.toInt (q_75.1 0 32) = Int32.toInt (q.1 0 32) := by rw [a_80.2 32 (by decide)]
        try have t_89 : Int32.toInt (15 * q_75.1 0 32) = 15 * Int32.toInt (q_75.1 0 32) := ti_mul (by decide) rfl (by omega) (by omega)
        try have t_90 : Int32.toInt (15 * q_75.1 0 32 + 14) = Int32.toInt (15 * q_75.1 0 32) + 14 := ti_add rfl (by decide) (by omega) (by omega)
        refine dOk_G (dg_ok (show 0 ≤ Int32.toInt (15 * q_75.1 0 32 + 14) by omega) (show Int32.toInt (15 * q_75.1 0 32 + 14) < ((240 : Nat) : Int) by omega)) ?_
        have n_91 : ((Int32.toNatClampNeg (15 * q_75.1 0 32 + 14) : Nat) : Int) = Int32.toInt (15 * q_75.1 0 32 + 14) := cl_eq (by omega)
        refine dOk_L (fun q_92 eq_92 => ?_)
        have hTq_92 : TS q_92 := by rw [eq_92]; first | exact ts_set a_79 (by decide) (by simp only [tlo, klo]; omega) (by simp only [thi, khi]; omega) | exact ts_14x a_79 (by omega)
        have hFq_92 : dFr [14] [32] q q_92 := by rw [eq_92]; exact hFq_75.i (by decide) (by decide)
        refine dOk_L (fun q_93 eq_93 => ?_)
        have f_94 : 0 ≤ Int32.toInt (q_92.1 0 32) ∧ Int32.toInt (q_92.1 0 32) ≤ 16 := hTq_92.1 0 32
        try have w_95 : Int32.toInt (q_92.1 0 32) = Int32.toInt (q_75.1 0 32) := by rw [eq_92, dui_o (by decide)]
        try have t_96 : Int32.toInt (q_92.1 0 32 + 1) = Int32.toInt (q_92.1 0 32) + 1 := ti_add rfl (by decide) (by omega) (by omega)
        have hTq_93 : TS q_93 := by rw [eq_93]; exact ts_f hTq_92 (show 0 ≤ Int32.toInt (q_92.1 0 32 + 1) by omega) (show Int32.toInt (q_92.1 0 32 + 1) ≤ 16 by omega)
        have hFq_93 : dFr [14] [32] q q_93 := by rw [eq_93]; exact hFq_92.f (by decide)
        exact dOk_some (show (TS q_93) ∧ (dFr [14] [32] q q_93) from ⟨hTq_93, hFq_93⟩)
      · refine dOk_G (dg_ok (show 0 ≤ Int32.toInt x3_78 by omega) (show Int32.toInt x3_78 < ((5640 : Nat) : Int) by omega)) ?_
        have n_97 : ((Int32.toNatClampNeg x3_78 : Nat) : Int) = Int32.toInt x3_78 := cl_eq (by omega)
        refine dOk_L (fun v_98 ev_98 => ?_)
        try have g_99 : klo (Int32.toNatClampNeg x3_78) ≤ Int32.toInt v_98 ∧ Int32.toInt v_98 ≤ khi (Int32.toNatClampNeg x3_78) := by rw [ev_98]; exact te_k a_79 _
        try have f_100 : 0 ≤ Int32.toInt v_98 ∧ Int32.toInt v_98 ≤ 5 := by rw [ev_98]; exact te_2r a_79 (by omega) (by omega)
        try have f_101 : 0 ≤ Int32.toInt v_98 ∧ Int32.toInt v_98 ≤ 1 := by rw [ev_98]; exact te_2h a_79 (by omega) (by omega)
        try have f_102 : 0 ≤ Int32.toInt v_98 ∧ Int32.toInt v_98 ≤ 5 := by rw [ev_98]; exact te_2s a_79 (by omega) (by omega)
        try have f_103 : 0 ≤ Int32.toInt v_98 ∧ Int32.toInt v_98 ≤ 400 := by rw [ev_98]; exact te_2z a_79 (by omega) (by omega)
        have f_104 : 0 ≤ Int32.toInt (q_75.1 0 32) ∧ Int32.toInt (q_75.1 0 32) ≤ 16 := a_79.1 0 32
        have w_105 : Int32.toInt (q_75.1 0 32) = Int32.toInt (q.1 0 32) := by rw [a_80.2 32 (by decide)]
        try have t_106 : Int32.toInt (15 * q_75.1 0 32) = 15 * Int32.toInt (q_75.1 0 32) := ti_mul (by decide) rfl (by omega) (by omega)
        try have t_107 : Int32.toInt (15 * q_75.1 0 32 + x3_78) = Int32.toInt (15 * q_75.1 0 32) + Int32.toInt x3_78 := ti_add rfl rfl (by omega) (by omega)
        refine dOk_G (dg_ok (show 0 ≤ Int32.toInt (15 * q_75.1 0 32 + x3_78) by omega) (show Int32.toInt (15 * q_75.1 0 32 + x3_78) < ((240 : Nat) : Int) by omega)) ?_
        have n_108 : ((Int32.toNatClampNeg (15 * q_75.1 0 32 + x3_78) : Nat) : Int) = Int32.toInt (15 * q_75.1 0 32 + x3_78) := cl_eq (by omega)
        refine dOk_L (fun q_109 eq_109 => ?_)
        have hTq_109 : TS q_109 := by rw [eq_109]; first | exact ts_14 a_79 (show (Int32.toNatClampNeg (15 * q_75.1 0 32 + x3_78)) % 15 = Int32.toNatClampNeg x3_78 by omega) (by omega) g_99 | exact ts_set a_79 (by decide) (by simp only [tlo, klo]; omega) (by simp only [thi, khi]; omega) | exact ts_14x a_79 (by omega)
        have hFq_109 : dFr [14] [32] q q_109 := by rw [eq_109]; exact hFq_75.i (by decide) (by decide)
        try have t_110 : Int32.toInt (x3_78 + 1) = Int32.toInt x3_78 + 1 := ti_add rfl (by decide) (by omega) (by omega)
        exact hk_73 (q_109, p1, 15, (x3_78 + 1)) (show (TS q_109) ∧ (dFr [14] [] q q_109) ∧ (p1 = p1) ∧ (15 = 15) ∧ (0 ≤ Int32.toInt (x3_78 + 1)) ∧ (Int32.toInt (x3_78 + 1) ≤ 14) from ⟨hTq_109, (by rw [eq_109]; exact (((dFr.rf : dFr [14] [] q q).t a_80 (by decide) (by decide)) : dFr [14] [] q q_75).i (by decide) (by decide)), rfl, rfl, by omega, by omega⟩) (show (14 - Int32.toInt (x3_78 + 1)).toNat < (14 - Int32.toInt x3_78).toNat by omega)
    · exact (show (TS q) ∧ (dFr [14] [] q q) ∧ (p1 = p1) ∧ (15 = 15) ∧ (0 ≤ (0 : Int)) ∧ ((0 : Int) ≤ 14) from ⟨hT, dFr.rf, rfl, rfl, by omega, by omega⟩)
    · show (14 - (0 : Int)).toNat < 1000000000000
      omega

set_option maxHeartbeats 4000000 in
set_option maxRecDepth 100000 in
theorem ok_undo (q : dS) (hT : TS q) : dOk (zX10_undo q) (fun (o : Int32 × dS) => (TS o.2) ∧ (dFk [1, 2] [0, 32] q o.2)) := by
  unfold zX10_undo
  have f_1 : 0 ≤ Int32.toInt (q.1 0 32) ∧ Int32.toInt (q.1 0 32) ≤ 16 := hT.1 0 32
  refine dOk_eq (A := Int32.toInt (q.1 0 32)) (B := 0) rfl (by decide) (fun c_2z c_2 => ?_) (fun c_3z c_3 => ?_)
  · refine dOk_B (ok_refuses q (-3) hT (show (-6) ≤ (-3 : Int) by omega) (show (-3 : Int) ≤ 0 by omega)) (fun r_5 q_6 h_7 => ?_)
    replace h_7 : (TS q_6) ∧ (dFr [1] [0] q q_6) ∧ (Int32.toInt r_5 = (-3 : Int)) := h_7
    obtain ⟨i_8, i_9, i_10⟩ := h_7
    have hFq_6 : dFk [1, 2] [0, 32] q q_6 := (dFk.rf (q := q)).tr i_9 (by decide) (by decide) (by decide)
    exact dOk_some (show (TS q_6) ∧ (dFk [1, 2] [0, 32] q q_6) from ⟨i_8, hFq_6⟩)
  · refine dOk_L (fun q_11 eq_11 => ?_)
    try have t_12 : Int32.toInt (q.1 0 32 - 1) = Int32.toInt (q.1 0 32) - 1 := ti_sub rfl (by decide) (by omega) (by omega)
    have hTq_11 : TS q_11 := by rw [eq_11]; exact ts_f hT (show 0 ≤ Int32.toInt (q.1 0 32 - 1) by omega) (show Int32.toInt (q.1 0 32 - 1) ≤ 16 by omega)
    have hFq_11 : dFk [1, 2] [0, 32] q q_11 := by rw [eq_11]; exact (dFk.rf (q := q)).f (by decide)
    unfold zX10_undo_34
    refine dFix_ok (fun (a : dS × Int32 × Int32) => (TS a.1) ∧ (dFk [2] [] q_11 a.1) ∧ (a.2.1 = (15 * q_11.1 0 32)) ∧ (0 ≤ Int32.toInt a.2.2) ∧ (Int32.toInt a.2.2 ≤ 14)) (fun (a : dS × Int32 × Int32) => (14 - Int32.toInt a.2.2).toNat) ?_ _ ?_ _ (dF_gt ?_)
    · intro a ha k_14 hk_13
      obtain ⟨q_15, x1_16, x2_17⟩ := a
      replace ha : (TS q_15) ∧ (dFk [2] [] q_11 q_15) ∧ (x1_16 = (15 * q_11.1 0 32)) ∧ (0 ≤ Int32.toInt x2_17) ∧ (Int32.toInt x2_17 ≤ 14) := ha
      obtain ⟨a_18, a_19, a_20, a_21, a_22⟩ := ha
      show dOk (zX10_undo_34b  (fun q x1 x2 => k_14 (q, x1, x2)) q_15 x1_16 x2_17) _
      unfold zX10_undo_34b
      have hFq_15 : dFk [1, 2] [0, 32] q q_15 := hFq_11.t a_19 (by decide) (by decide)
      subst x1_16
      have f_23 : 0 ≤ Int32.toInt (q_11.1 0 32) ∧ Int32.toInt (q_11.1 0 32) ≤ 16 := hTq_11.1 0 32
      have w_24 : Int32.toInt (q_11.1 0 32) = Int32.toInt (q.1 0 32 - 1) := by rw [eq_11, dui_e]
      refine dOk_le (A := 14) (B := Int32.toInt x2_17) (by decide) rfl (fun c_25 => ?_) (fun c_26 => ?_)
      · try have t_27 : Int32.toInt (15 * q_11.1 0 32) = 15 * Int32.toInt (q_11.1 0 32) := ti_mul (by decide) rfl (by omega) (by omega)
        try have t_28 : Int32.toInt (15 * q_11.1 0 32 + 14) = Int32.toInt (15 * q_11.1 0 32) + 14 := ti_add rfl (by decide) (by omega) (by omega)
        refine dOk_G (dg_ok (show 0 ≤ Int32.toInt (15 * q_11.1 0 32 + 14) by omega) (show Int32.toInt (15 * q_11.1 0 32 + 14) < ((240 : Nat) : Int) by omega)) ?_
        have n_29 : ((Int32.toNatClampNeg (15 * q_11.1 0 32 + 14) : Nat) : Int) = Int32.toInt (15 * q_11.1 0 32 + 14) := cl_eq (by omega)
        refine dOk_L (fun v_30 ev_30 => ?_)
        try have g_31 : klo ((Int32.toNatClampNeg (15 * q_11.1 0 32 + 14)) % 15) ≤ Int32.toInt v_30 ∧ Int32.toInt v_30 ≤ khi ((Int32.toNatClampNeg (15 * q_11.1 0 32 + 14)) % 15) := by rw [ev_30]; exact te_14 a_18 (by omega)
        refine dOk_B (ok_good q_15 v_30 a_18) (fun r_32 q_33 h_34 => ?_)
        replace h_34 : (TS q_33) ∧ (dFr [] [0] q_15 q_33) ∧ (Int32.toInt r_32 = Int32.toInt v_30) := h_34
        obtain ⟨i_35, i_36, i_37⟩ := h_34
        have hFq_33 : dFk [1, 2] [0, 32] q q_33 := hFq_15.tr i_36 (by decide) (by decide) (by decide)
        exact dOk_some (show (TS q_33) ∧ (dFk [1, 2] [0, 32] q q_33) from ⟨i_35, hFq_33⟩)
      · try have t_38 : Int32.toInt (15 * q_11.1 0 32) = 15 * Int32.toInt (q_11.1 0 32) := ti_mul (by decide) rfl (by omega) (by omega)
        try have t_39 : Int32.toInt (15 * q_11.1 0 32 + x2_17) = Int32.toInt (15 * q_11.1 0 32) + Int32.toInt x2_17 := ti_add rfl rfl (by omega) (by omega)
        refine dOk_G (dg_ok (show 0 ≤ Int32.toInt (15 * q_11.1 0 32 + x2_17) by omega) (show Int32.toInt (15 * q_11.1 0 32 + x2_17) < ((240 : Nat) : Int) by omega)) ?_
        have n_40 : ((Int32.toNatClampNeg (15 * q_11.1 0 32 + x2_17) : Nat) : Int) = Int32.toInt (15 * q_11.1 0 32 + x2_17) := cl_eq (by omega)
        refine dOk_L (fun v_41 ev_41 => ?_)
        try have g_42 : klo ((Int32.toNatClampNeg (15 * q_11.1 0 32 + x2_17)) % 15) ≤ Int32.toInt v_41 ∧ Int32.toInt v_41 ≤ khi ((Int32.toNatClampNeg (15 * q_11.1 0 32 + x2_17)) % 15) := by rw [ev_41]; exact te_14 a_18 (by omega)
        refine dOk_G (dg_ok (show 0 ≤ Int32.toInt x2_17 by omega) (show Int32.toInt x2_17 < ((5640 : Nat) : Int) by omega)) ?_
        have n_43 : ((Int32.toNatClampNeg x2_17 : Nat) : Int) = Int32.toInt x2_17 := cl_eq (by omega)
        refine dOk_L (fun q_44 eq_44 => ?_)
        have hTq_44 : TS q_44 := by rw [eq_44]; first | exact ts_2c a_18 (by omega) (show Int32.toNatClampNeg x2_17 = (Int32.toNatClampNeg (15 * q_11.1 0 32 + x2_17)) % 15 by omega) g_42 | exact ts_set2 a_18 (by omega) (show klo (Int32.toNatClampNeg x2_17) ≤ Int32.toInt v_41 by unfold klo; omega) (show Int32.toInt v_41 ≤ khi (Int32.toNatClampNeg x2_17) by unfold khi; omega)
        have hFq_44 : dFk [1, 2] [0, 32] q q_44 := by rw [eq_44]; exact hFq_15.k (by omega) (by decide)
        try have t_45 : Int32.toInt (x2_17 + 1) = Int32.toInt x2_17 + 1 := ti_add rfl (by decide) (by omega) (by omega)
        exact hk_13 (q_44, (15 * q_11.1 0 32), (x2_17 + 1)) (show (TS q_44) ∧ (dFk [2] [] q_11 q_44) ∧ ((15 * q_11.1 0 32) = (15 * q_11.1 0 32)) ∧ (0 ≤ Int32.toInt (x2_17 + 1)) ∧ (Int32.toInt (x2_17 + 1) ≤ 14) from ⟨hTq_44, (by rw [eq_44]; exact (((dFk.rf : dFk [2] [] q_11 q_11).t a_19 (by decide) (by decide)) : dFk [2] [] q_11 q_15).k (by omega) (by decide)), rfl, by omega, by omega⟩) (show (14 - Int32.toInt (x2_17 + 1)).toNat < (14 - Int32.toInt x2_17).toNat by omega)
    · have f_46 : 0 ≤ Int32.toInt (q_11.1 0 32) ∧ Int32.toInt (q_11.1 0 32) ≤ 16 := hTq_11.1 0 32
      have w_47 : Int32.toInt (q_11.1 0 32) = Int32.toInt (q.1 0 32 - 1) := by rw [eq_11, dui_e]
      try have t_48 : Int32.toInt (15 * q_11.1 0 32) = 15 * Int32.toInt (q_11.1 0 32) := ti_mul (by decide) rfl (by omega) (by omega)
      exact (show (TS q_11) ∧ (dFk [2] [] q_11 q_11) ∧ ((15 * q_11.1 0 32) = (15 * q_11.1 0 32)) ∧ (0 ≤ (0 : Int)) ∧ ((0 : Int) ≤ 14) from ⟨hTq_11, dFk.rf, rfl, by omega, by omega⟩)
    · have f_49 : 0 ≤ Int32.toInt (q_11.1 0 32) ∧ Int32.toInt (q_11.1 0 32) ≤ 16 := hTq_11.1 0 32
      have w_50 : Int32.toInt (q_11.1 0 32) = Int32.toInt (q.1 0 32 - 1) := by rw [eq_11, dui_e]
      try have t_51 : Int32.toInt (15 * q_11.1 0 32) = 15 * Int32.toInt (q_11.1 0 32) := ti_mul (by decide) rfl (by omega) (by omega)
      show (14 - (0 : Int)).toNat < 1000000000000
      omega

set_option maxHeartbeats 4000000 in
set_option maxRecDepth 100000 in
theorem ok_goodOr (q : dS) (p1 : Int32) (hT : TS q) (hp0 : (-6) ≤ Int32.toInt p1) : dOk (zX10_goodOr q p1) (fun (o : Int32 × dS) => (TS o.2) ∧ (dFr [1] [0] q o.2) ∧ (Int32.toInt o.1 = Int32.toInt p1)) := by
  unfold zX10_goodOr
  refine dOk_le (A := 0) (B := Int32.toInt p1) (by decide) rfl (fun c_1 => ?_) (fun c_2 => ?_)
  · refine dOk_B (ok_good q p1 hT) (fun r_3 q_4 h_5 => ?_)
    replace h_5 : (TS q_4) ∧ (dFr [] [0] q q_4) ∧ (Int32.toInt r_3 = Int32.toInt p1) := h_5
    obtain ⟨i_6, i_7, i_8⟩ := h_5
    have hFq_4 : dFr [1] [0] q q_4 := (dFr.rf (q := q)).t i_7 (by decide) (by decide)
    unfold zX10_goodOr_17
    exact dOk_some (show (TS q_4) ∧ (dFr [1] [0] q q_4) ∧ (Int32.toInt r_3 = Int32.toInt p1) from ⟨i_6, hFq_4, by omega⟩)
  · refine dOk_B (ok_refuses q p1 hT (show (-6) ≤ Int32.toInt p1 by omega) (show Int32.toInt p1 ≤ 0 by omega)) (fun r_9 q_10 h_11 => ?_)
    replace h_11 : (TS q_10) ∧ (dFr [1] [0] q q_10) ∧ (Int32.toInt r_9 = Int32.toInt p1) := h_11
    obtain ⟨i_12, i_13, i_14⟩ := h_11
    have hFq_10 : dFr [1] [0] q q_10 := (dFr.rf (q := q)).t i_13 (by decide) (by decide)
    unfold zX10_goodOr_17
    exact dOk_some (show (TS q_10) ∧ (dFr [1] [0] q q_10) ∧ (Int32.toInt r_9 = Int32.toInt p1) from ⟨i_12, hFq_10, by omega⟩)

set_option maxHeartbeats 4000000 in
set_option maxRecDepth 100000 in
theorem ok_rightsKept (q : dS) (p1 : Int32) (hT : TS q) : dOk (zX10_rightsKept q p1) (fun (o : Int32 × dS) => (TS o.2) ∧ (dFk [2, 14] [32] q o.2) ∧ (-3 ≤ Int32.toInt o.1 ∧ Int32.toInt o.1 ≤ 99)) := by
  unfold zX10_rightsKept
  refine dOk_V (ok_lies p1 0 5) (fun r_1 h_2 => ?_)
  replace h_2 : ((Int32.toInt r_1 = 1 ∧ (0 : Int) ≤ Int32.toInt p1 ∧ Int32.toInt p1 ≤ (5 : Int)) ∨ (Int32.toInt r_1 = 0 ∧ (Int32.toInt p1 < (0 : Int) ∨ (5 : Int) < Int32.toInt p1))) := h_2
  have i_3 := h_2
  refine dOk_eq (A := Int32.toInt r_1) (B := 0) rfl (by decide) (fun c_4z c_4 => ?_) (fun c_5z c_5 => ?_)
  · exact dOk_some (show (TS q) ∧ (dFk [2, 14] [32] q q) ∧ (-3 ≤ (-1 : Int) ∧ (-1 : Int) ≤ 99) from ⟨hT, (dFk.rf (q := q)), by omega⟩)
  · refine dOk_B (ok_isPlace q p1 hT) (fun r_7 q_8 h_9 => ?_)
    replace h_9 : (q_8 = q) ∧ ((Int32.toInt r_7 = 1 ∧ 0 ≤ Int32.toInt p1 ∧ Int32.toInt p1 < Int32.toInt (q.1 2 29)) ∨ (Int32.toInt r_7 = 0 ∧ (Int32.toInt p1 < 0 ∨ Int32.toInt (q.1 2 29) ≤ Int32.toInt p1))) := h_9
    obtain ⟨i_10, i_11⟩ := h_9
    subst q_8
    have f_12 : 0 ≤ Int32.toInt (q.1 2 29) ∧ Int32.toInt (q.1 2 29) ≤ 6 := hT.1 2 29
    refine dOk_eq (A := Int32.toInt r_7) (B := 0) rfl (by decide) (fun c_13z c_13 => ?_) (fun c_14z c_14 => ?_)
    · exact dOk_some (show (TS q) ∧ (dFk [2, 14] [32] q q) ∧ (-3 ≤ (-3 : Int) ∧ (-3 : Int) ≤ 99) from ⟨hT, (dFk.rf (q := q)), by omega⟩)
    · refine dOk_V (ok_keeps q 1 hT) (fun q_16 h_17 => ?_)
      replace h_17 : (TS q_16) ∧ (dFr [14] [32] q q_16) := h_17
      obtain ⟨i_18, i_19⟩ := h_17
      have hFq_16 : dFk [2, 14] [32] q q_16 := (dFk.rf (q := q)).tr i_19 (by decide) (by decide) (by decide)
      try have t_20 : Int32.toInt (6 + p1) = 6 + Int32.toInt p1 := ti_add (by decide) rfl (by omega) (by omega)
      refine dOk_G (dg_ok (show 0 ≤ Int32.toInt (6 + p1) by omega) (show Int32.toInt (6 + p1) < ((5640 : Nat) : Int) by omega)) ?_
      have n_21 : ((Int32.toNatClampNeg (6 + p1) : Nat) : Int) = Int32.toInt (6 + p1) := cl_eq (by omega)
      refine dOk_L (fun v_22 ev_22 => ?_)
      try have g_23 : klo (Int32.toNatClampNeg (6 + p1)) ≤ Int32.toInt v_22 ∧ Int32.toInt v_22 ≤ khi (Int32.toNatClampNeg (6 + p1)) := by rw [ev_22]; exact te_k i_18 _
      try have f_24 : 0 ≤ Int32.toInt v_22 ∧ Int32.toInt v_22 ≤ 5 := by rw [ev_22]; exact te_2r i_18 (by omega) (by omega)
      try have f_25 : 0 ≤ Int32.toInt v_22 ∧ Int32.toInt v_22 ≤ 1 := by rw [ev_22]; exact te_2h i_18 (by omega) (by omega)
      try have f_26 : 0 ≤ Int32.toInt v_22 ∧ Int32.toInt v_22 ≤ 5 := by rw [ev_22]; exact te_2s i_18 (by omega) (by omega)
      try have f_27 : 0 ≤ Int32.toInt v_22 ∧ Int32.toInt v_22 ≤ 400 := by rw [ev_22]; exact te_2z i_18 (by omega) (by omega)
      refine dOk_G (dg_ok (show 0 ≤ Int32.toInt (6 + p1) by omega) (show Int32.toInt (6 + p1) < ((5640 : Nat) : Int) by omega)) ?_
      refine dOk_L (fun q_28 eq_28 => ?_)
      try have t_29 : Int32.toInt (1 - v_22) = 1 - Int32.toInt v_22 := ti_sub (by decide) rfl (by omega) (by omega)
      have hTq_28 : TS q_28 := by rw [eq_28]; exact ts_set2 i_18 (by omega) (show klo (Int32.toNatClampNeg (6 + p1)) ≤ Int32.toInt (1 - v_22) by unfold klo; omega) (show Int32.toInt (1 - v_22) ≤ khi (Int32.toNatClampNeg (6 + p1)) by unfold khi; omega)
      have hFq_28 : dFk [2, 14] [32] q q_28 := by rw [eq_28]; exact hFq_16.k (by omega) (by decide)
      refine dOk_G (dg_ok (show 0 ≤ Int32.toInt (6 + p1) by omega) (show Int32.toInt (6 + p1) < ((5640 : Nat) : Int) by omega)) ?_
      refine dOk_L (fun v_30 ev_30 => ?_)
      try have g_31 : klo (Int32.toNatClampNeg (6 + p1)) ≤ Int32.toInt v_30 ∧ Int32.toInt v_30 ≤ khi (Int32.toNatClampNeg (6 + p1)) := by rw [ev_30]; exact te_k hTq_28 _
      try have f_32 : 0 ≤ Int32.toInt v_30 ∧ Int32.toInt v_30 ≤ 5 := by rw [ev_30]; exact te_2r hTq_28 (by omega) (by omega)
      try have f_33 : 0 ≤ Int32.toInt v_30 ∧ Int32.toInt v_30 ≤ 1 := by rw [ev_30]; exact te_2h hTq_28 (by omega) (by omega)
      try have f_34 : 0 ≤ Int32.toInt v_30 ∧ Int32.toInt v_30 ≤ 5 := by rw [ev_30]; exact te_2s hTq_28 (by omega) (by omega)
      try have f_35 : 0 ≤ Int32.toInt v_30 ∧ Int32.toInt v_30 ≤ 400 := by rw [ev_30]; exact te_2z hTq_28 (by omega) (by omega)
      exact dOk_some (show (TS q_28) ∧ (dFk [2, 14] [32] q q_28) ∧ (-3 ≤ Int32.toInt v_30 ∧ Int32.toInt v_30 ≤ 99) from ⟨hTq_28, hFq_28, by omega⟩)

set_option maxHeartbeats 4000000 in
set_option maxRecDepth 100000 in
theorem ok_swapsKept (q : dS) (p1 : Int32) (hT : TS q) : dOk (zX10_swapsKept q p1) (fun (o : Int32 × dS) => (TS o.2) ∧ (dFk [2, 14] [32] q o.2) ∧ (-3 ≤ Int32.toInt o.1 ∧ Int32.toInt o.1 ≤ 99)) := by
  unfold zX10_swapsKept
  refine dOk_V (ok_lies p1 0 4) (fun r_1 h_2 => ?_)
  replace h_2 : ((Int32.toInt r_1 = 1 ∧ (0 : Int) ≤ Int32.toInt p1 ∧ Int32.toInt p1 ≤ (4 : Int)) ∨ (Int32.toInt r_1 = 0 ∧ (Int32.toInt p1 < (0 : Int) ∨ (4 : Int) < Int32.toInt p1))) := h_2
  have i_3 := h_2
  refine dOk_eq (A := Int32.toInt r_1) (B := 0) rfl (by decide) (fun c_4z c_4 => ?_) (fun c_5z c_5 => ?_)
  · exact dOk_some (show (TS q) ∧ (dFk [2, 14] [32] q q) ∧ (-3 ≤ (-1 : Int) ∧ (-1 : Int) ≤ 99) from ⟨hT, (dFk.rf (q := q)), by omega⟩)
  · try have t_7 : Int32.toInt (p1 + 1) = Int32.toInt p1 + 1 := ti_add rfl (by decide) (by omega) (by omega)
    refine dOk_B (ok_isPlace q (p1 + 1) hT) (fun r_8 q_9 h_10 => ?_)
    replace h_10 : (q_9 = q) ∧ ((Int32.toInt r_8 = 1 ∧ 0 ≤ Int32.toInt (p1 + 1) ∧ Int32.toInt (p1 + 1) < Int32.toInt (q.1 2 29)) ∨ (Int32.toInt r_8 = 0 ∧ (Int32.toInt (p1 + 1) < 0 ∨ Int32.toInt (q.1 2 29) ≤ Int32.toInt (p1 + 1)))) := h_10
    obtain ⟨i_11, i_12⟩ := h_10
    subst q_9
    have f_13 : 0 ≤ Int32.toInt (q.1 2 29) ∧ Int32.toInt (q.1 2 29) ≤ 6 := hT.1 2 29
    refine dOk_eq (A := Int32.toInt r_8) (B := 0) rfl (by decide) (fun c_14z c_14 => ?_) (fun c_15z c_15 => ?_)
    · exact dOk_some (show (TS q) ∧ (dFk [2, 14] [32] q q) ∧ (-3 ≤ (-3 : Int) ∧ (-3 : Int) ≤ 99) from ⟨hT, (dFk.rf (q := q)), by omega⟩)
    · refine dOk_V (ok_keeps q 2 hT) (fun q_17 h_18 => ?_)
      replace h_18 : (TS q_17) ∧ (dFr [14] [32] q q_17) := h_18
      obtain ⟨i_19, i_20⟩ := h_18
      have hFq_17 : dFk [2, 14] [32] q q_17 := (dFk.rf (q := q)).tr i_20 (by decide) (by decide) (by decide)
      refine dOk_V (ok_exchanges q_17 p1 (p1 + 1) i_19 (show 0 ≤ Int32.toInt p1 ∧ Int32.toInt p1 ≤ 5 by omega) (show 0 ≤ Int32.toInt (p1 + 1) ∧ Int32.toInt (p1 + 1) ≤ 5 by omega)) (fun q_21 h_22 => ?_)
      replace h_22 : (TS q_21) ∧ (dFk [2] [] q_17 q_21) ∧ (Int32.toInt (q_21.1 2 12) = Int32.toInt (q_17.1 2 12)) ∧ (Int32.toInt (q_21.1 2 13) = Int32.toInt (q_17.1 2 13)) ∧ (Int32.toInt (q_21.1 2 29) = Int32.toInt (q_17.1 2 29)) := h_22
      obtain ⟨i_23, i_24, i_25, i_26, i_27⟩ := h_22
      have hFq_21 : dFk [2, 14] [32] q q_21 := hFq_17.t i_24 (by decide) (by decide)
      have f_28 : 0 ≤ Int32.toInt (q_21.1 2 12) ∧ Int32.toInt (q_21.1 2 12) ≤ 9999 := i_23.1 2 12
      have f_29 : 0 ≤ Int32.toInt (q_17.1 2 12) ∧ Int32.toInt (q_17.1 2 12) ≤ 9999 := i_19.1 2 12
      have f_30 : 0 ≤ Int32.toInt (q.1 2 12) ∧ Int32.toInt (q.1 2 12) ≤ 9999 := hT.1 2 12
      have w_31 : Int32.toInt (q_17.1 2 12) = Int32.toInt (q.1 2 12) := by rw [i_20.1 2 (by decide) (by decide)]
      have f_32 : 0 ≤ Int32.toInt (q_21.1 2 13) ∧ Int32.toInt (q_21.1 2 13) ≤ 999 := i_23.1 2 13
      have f_33 : 0 ≤ Int32.toInt (q_17.1 2 13) ∧ Int32.toInt (q_17.1 2 13) ≤ 999 := i_19.1 2 13
      have f_34 : 0 ≤ Int32.toInt (q.1 2 13) ∧ Int32.toInt (q.1 2 13) ≤ 999 := hT.1 2 13
      have w_35 : Int32.toInt (q_17.1 2 13) = Int32.toInt (q.1 2 13) := by rw [i_20.1 2 (by decide) (by decide)]
      have f_36 : 0 ≤ Int32.toInt (q_21.1 2 29) ∧ Int32.toInt (q_21.1 2 29) ≤ 6 := i_23.1 2 29
      have f_37 : 0 ≤ Int32.toInt (q_17.1 2 29) ∧ Int32.toInt (q_17.1 2 29) ≤ 6 := i_19.1 2 29
      have w_38 : Int32.toInt (q_17.1 2 29) = Int32.toInt (q.1 2 29) := by rw [i_20.1 2 (by decide) (by decide)]
      have w_39 : Int32.toInt (q_21.1 2 29) = Int32.toInt (q_17.1 2 29) := by rw [i_24.2 29 (by decide)]
      try have t_40 : Int32.toInt (0 + p1) = 0 + Int32.toInt p1 := ti_add (by decide) rfl (by omega) (by omega)
      refine dOk_G (dg_ok (show 0 ≤ Int32.toInt (0 + p1) by omega) (show Int32.toInt (0 + p1) < ((5640 : Nat) : Int) by omega)) ?_
      have n_41 : ((Int32.toNatClampNeg (0 + p1) : Nat) : Int) = Int32.toInt (0 + p1) := cl_eq (by omega)
      refine dOk_L (fun v_42 ev_42 => ?_)
      try have g_43 : klo (Int32.toNatClampNeg (0 + p1)) ≤ Int32.toInt v_42 ∧ Int32.toInt v_42 ≤ khi (Int32.toNatClampNeg (0 + p1)) := by rw [ev_42]; exact te_k i_23 _
      try have f_44 : 0 ≤ Int32.toInt v_42 ∧ Int32.toInt v_42 ≤ 5 := by rw [ev_42]; exact te_2r i_23 (by omega) (by omega)
      try have f_45 : 0 ≤ Int32.toInt v_42 ∧ Int32.toInt v_42 ≤ 1 := by rw [ev_42]; exact te_2h i_23 (by omega) (by omega)
      try have f_46 : 0 ≤ Int32.toInt v_42 ∧ Int32.toInt v_42 ≤ 5 := by rw [ev_42]; exact te_2s i_23 (by omega) (by omega)
      try have f_47 : 0 ≤ Int32.toInt v_42 ∧ Int32.toInt v_42 ≤ 400 := by rw [ev_42]; exact te_2z i_23 (by omega) (by omega)
      exact dOk_some (show (TS q_21) ∧ (dFk [2, 14] [32] q q_21) ∧ (-3 ≤ Int32.toInt v_42 ∧ Int32.toInt v_42 ≤ 99) from ⟨i_23, hFq_21, by omega⟩)

set_option maxHeartbeats 4000000 in
set_option maxRecDepth 100000 in
theorem ok_right (q : dS) (p1 : Int32) (hT : TS q) : dOk (zX10_right q p1) (fun (o : Int32 × dS) => (TS o.2) ∧ (dFk [1, 2, 14] [0, 32] q o.2)) := by
  unfold zX10_right
  refine dOk_B (ok_rightsKept q p1 hT) (fun r_1 q_2 h_3 => ?_)
  replace h_3 : (TS q_2) ∧ (dFk [2, 14] [32] q q_2) ∧ (-3 ≤ Int32.toInt r_1 ∧ Int32.toInt r_1 ≤ 99) := h_3
  obtain ⟨i_4, i_5, i_6⟩ := h_3
  have hFq_2 : dFk [1, 2, 14] [0, 32] q q_2 := (dFk.rf (q := q)).t i_5 (by decide) (by decide)
  refine dOk_B (ok_goodOr q_2 r_1 i_4 (show (-6) ≤ Int32.toInt r_1 by omega)) (fun r_7 q_8 h_9 => ?_)
  replace h_9 : (TS q_8) ∧ (dFr [1] [0] q_2 q_8) ∧ (Int32.toInt r_7 = Int32.toInt r_1) := h_9
  obtain ⟨i_10, i_11, i_12⟩ := h_9
  have hFq_8 : dFk [1, 2, 14] [0, 32] q q_8 := hFq_2.tr i_11 (by decide) (by decide) (by decide)
  exact dOk_some (show (TS q_8) ∧ (dFk [1, 2, 14] [0, 32] q q_8) from ⟨i_10, hFq_8⟩)

set_option maxHeartbeats 4000000 in
set_option maxRecDepth 100000 in
theorem ok_swap (q : dS) (p1 : Int32) (hT : TS q) : dOk (zX10_swap q p1) (fun (o : Int32 × dS) => (TS o.2) ∧ (dFk [1, 2, 14] [0, 32] q o.2)) := by
  unfold zX10_swap
  refine dOk_B (ok_swapsKept q p1 hT) (fun r_1 q_2 h_3 => ?_)
  replace h_3 : (TS q_2) ∧ (dFk [2, 14] [32] q q_2) ∧ (-3 ≤ Int32.toInt r_1 ∧ Int32.toInt r_1 ≤ 99) := h_3
  obtain ⟨i_4, i_5, i_6⟩ := h_3
  have hFq_2 : dFk [1, 2, 14] [0, 32] q q_2 := (dFk.rf (q := q)).t i_5 (by decide) (by decide)
  refine dOk_B (ok_goodOr q_2 r_1 i_4 (show (-6) ≤ Int32.toInt r_1 by omega)) (fun r_7 q_8 h_9 => ?_)
  replace h_9 : (TS q_8) ∧ (dFr [1] [0] q_2 q_8) ∧ (Int32.toInt r_7 = Int32.toInt r_1) := h_9
  obtain ⟨i_10, i_11, i_12⟩ := h_9
  have hFq_8 : dFk [1, 2, 14] [0, 32] q q_8 := hFq_2.tr i_11 (by decide) (by decide) (by decide)
  exact dOk_some (show (TS q_8) ∧ (dFk [1, 2, 14] [0, 32] q q_8) from ⟨i_10, hFq_8⟩)

set_option maxHeartbeats 4000000 in
set_option maxRecDepth 100000 in
theorem ok_allOrders (p1 : Int32) (hp0 : Int32.toInt p1 ≤ 6) : dOk (zX10_allOrders p1) (fun (o : Int32) => (((Int32.toInt p1 ≤ 1 ∧ Int32.toInt o = 1) ∨ (Int32.toInt p1 = 2 ∧ Int32.toInt o = 2) ∨ (Int32.toInt p1 = 3 ∧ Int32.toInt o = 6) ∨ (Int32.toInt p1 = 4 ∧ Int32.toInt o = 24) ∨ (Int32.toInt p1 = 5 ∧ Int32.toInt o = 120) ∨ (Int32.toInt p1 = 6 ∧ Int32.toInt o = 720)))) := by
  unfold zX10_allOrders
  unfold zX10_allOrders_4
  refine dFix_ok (fun (a : Int32 × Int32 × Int32) => (a.1 = p1) ∧ (((Int32.toInt a.2.2 = 2 ∧ Int32.toInt a.2.1 = 1) ∨ (Int32.toInt a.2.2 = 3 ∧ Int32.toInt a.2.1 = 2) ∨ (Int32.toInt a.2.2 = 4 ∧ Int32.toInt a.2.1 = 6) ∨ (Int32.toInt a.2.2 = 5 ∧ Int32.toInt a.2.1 = 24) ∨ (Int32.toInt a.2.2 = 6 ∧ Int32.toInt a.2.1 = 120) ∨ (Int32.toInt a.2.2 = 7 ∧ Int32.toInt a.2.1 = 720))) ∧ (Int32.toInt a.2.2 ≤ 2 ∨ Int32.toInt a.2.2 ≤ Int32.toInt a.1 + 1)) (fun (a : Int32 × Int32 × Int32) => (8 - Int32.toInt a.2.2).toNat) ?_ _ ?_ _ (dF_gt ?_)
  · intro a ha k_2 hk_1
    obtain ⟨x0_3, x1_4, x2_5⟩ := a
    replace ha : (x0_3 = p1) ∧ (((Int32.toInt x2_5 = 2 ∧ Int32.toInt x1_4 = 1) ∨ (Int32.toInt x2_5 = 3 ∧ Int32.toInt x1_4 = 2) ∨ (Int32.toInt x2_5 = 4 ∧ Int32.toInt x1_4 = 6) ∨ (Int32.toInt x2_5 = 5 ∧ Int32.toInt x1_4 = 24) ∨ (Int32.toInt x2_5 = 6 ∧ Int32.toInt x1_4 = 120) ∨ (Int32.toInt x2_5 = 7 ∧ Int32.toInt x1_4 = 720))) ∧ (Int32.toInt x2_5 ≤ 2 ∨ Int32.toInt x2_5 ≤ Int32.toInt x0_3 + 1) := ha
    obtain ⟨a_6, a_7, a_8⟩ := ha
    show dOk (zX10_allOrders_4b  (fun x0 x1 x2 => k_2 (x0, x1, x2)) x0_3 x1_4 x2_5) _
    unfold zX10_allOrders_4b
    subst x0_3
    have zz := fac_step (x1 := x1_4) (x2 := x2_5) (by omega)
    refine dOk_lt (A := Int32.toInt p1) (B := Int32.toInt x2_5) rfl rfl (fun c_9 => ?_) (fun c_10 => ?_)
    · exact dOk_some (show (((Int32.toInt p1 ≤ 1 ∧ Int32.toInt x1_4 = 1) ∨ (Int32.toInt p1 = 2 ∧ Int32.toInt x1_4 = 2) ∨ (Int32.toInt p1 = 3 ∧ Int32.toInt x1_4 = 6) ∨ (Int32.toInt p1 = 4 ∧ Int32.toInt x1_4 = 24) ∨ (Int32.toInt p1 = 5 ∧ Int32.toInt x1_4 = 120) ∨ (Int32.toInt p1 = 6 ∧ Int32.toInt x1_4 = 720))) from (by omega))
    · try have t_11 : Int32.toInt (x1_4 * x2_5) = Int32.toInt x1_4 * Int32.toInt x2_5 := ti_mul rfl rfl (by omega) (by omega)
      try have t_12 : Int32.toInt (x2_5 + 1) = Int32.toInt x2_5 + 1 := ti_add rfl (by decide) (by omega) (by omega)
      exact hk_1 (p1, (x1_4 * x2_5), (x2_5 + 1)) (show (p1 = p1) ∧ (((Int32.toInt (x2_5 + 1) = 2 ∧ Int32.toInt (x1_4 * x2_5) = 1) ∨ (Int32.toInt (x2_5 + 1) = 3 ∧ Int32.toInt (x1_4 * x2_5) = 2) ∨ (Int32.toInt (x2_5 + 1) = 4 ∧ Int32.toInt (x1_4 * x2_5) = 6) ∨ (Int32.toInt (x2_5 + 1) = 5 ∧ Int32.toInt (x1_4 * x2_5) = 24) ∨ (Int32.toInt (x2_5 + 1) = 6 ∧ Int32.toInt (x1_4 * x2_5) = 120) ∨ (Int32.toInt (x2_5 + 1) = 7 ∧ Int32.toInt (x1_4 * x2_5) = 720))) ∧ (Int32.toInt (x2_5 + 1) ≤ 2 ∨ Int32.toInt (x2_5 + 1) ≤ Int32.toInt p1 + 1) from ⟨rfl, by omega, by omega⟩) (show (8 - Int32.toInt (x2_5 + 1)).toNat < (8 - Int32.toInt x2_5).toNat by omega)
  · exact (show (p1 = p1) ∧ ((((2 : Int) = 2 ∧ (1 : Int) = 1) ∨ ((2 : Int) = 3 ∧ (1 : Int) = 2) ∨ ((2 : Int) = 4 ∧ (1 : Int) = 6) ∨ ((2 : Int) = 5 ∧ (1 : Int) = 24) ∨ ((2 : Int) = 6 ∧ (1 : Int) = 120) ∨ ((2 : Int) = 7 ∧ (1 : Int) = 720))) ∧ ((2 : Int) ≤ 2 ∨ (2 : Int) ≤ Int32.toInt p1 + 1) from ⟨rfl, by omega, by omega⟩)
  · show (8 - (2 : Int)).toNat < 1000000000000
    omega
end
