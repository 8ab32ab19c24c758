/-! the pure phase: that a function answers, and what -/
def dOk {α : Type} (x : Option α) (P : α → Prop) : Prop := ∃ o : α, x = some o ∧ P o
theorem dOk_some {α : Type} {o : α} {P : α → Prop} (h : P o) : dOk (some o) P := ⟨o, rfl, h⟩
theorem dOk_mono {α : Type} {x : Option α} {P Q : α → Prop} (h : dOk x P) (k : ∀ o : α, P o → Q o) : dOk x Q := by
  obtain ⟨o, e, h⟩ := h
  exact ⟨o, e, k o h⟩
theorem dOk_G {α : Type} {b : Bool} {x : Option α} {P : α → Prop} (hb : b = true) (h : dOk x P) : dOk (dG b x) P := by
  subst hb
  exact h
theorem dOk_L {α β : Type} {v : α} {k : α → Option β} {P : β → Prop} (h : ∀ y : α, y = v → dOk (k y) P) : dOk (dL v k) P := h v rfl
theorem dOk_B {α β γ : Type} {x : Option (α × β)} {k : α → β → Option γ} {R : α × β → Prop} {P : γ → Prop} (h : dOk x R) (hk : ∀ (a : α) (b : β), R (a, b) → dOk (k a b) P) : dOk (dB x k) P := by
  obtain ⟨⟨a, b⟩, e, h⟩ := h
  subst e
  exact hk a b h
theorem dOk_V {α β : Type} {x : Option α} {k : α → Option β} {R : α → Prop} {P : β → Prop} (h : dOk x R) (hk : ∀ a : α, R a → dOk (k a) P) : dOk (dV x k) P := by
  obtain ⟨a, e, h⟩ := h
  subst e
  exact hk a h
theorem dOk_lt {β : Type} {a b : Int32} {A B : Int} {x y : Option β} {P : β → Prop} (ha : a.toInt = A) (hb : b.toInt = B) (h1 : A < B → dOk x P) (h2 : B ≤ A → dOk y P) : dOk (if a < b then x else y) P := by
  subst ha hb
  by_cases c : a < b
  · rw [if_pos c]; exact h1 (Int32.lt_iff_toInt_lt.mp c)
  · rw [if_neg c]; exact h2 (Int.not_lt.mp (fun z => c (Int32.lt_iff_toInt_lt.mpr z)))
theorem dOk_le {β : Type} {a b : Int32} {A B : Int} {x y : Option β} {P : β → Prop} (ha : a.toInt = A) (hb : b.toInt = B) (h1 : A ≤ B → dOk x P) (h2 : B < A → dOk y P) : dOk (if a ≤ b then x else y) P := by
  subst ha hb
  by_cases c : a ≤ b
  · rw [if_pos c]; exact h1 (Int32.le_iff_toInt_le.mp c)
  · rw [if_neg c]; exact h2 (Int.not_le.mp (fun z => c (Int32.le_iff_toInt_le.mpr z)))
theorem dOk_eq {β : Type} {a b : Int32} {A B : Int} {x y : Option β} {P : β → Prop} (ha : a.toInt = A) (hb : b.toInt = B) (h1 : a = b → A = B → dOk x P) (h2 : ¬ a = b → ¬ A = B → dOk y P) : dOk (if a = b then x else y) P := by
  subst ha hb
  by_cases c : a = b
  · rw [if_pos c]; exact h1 c (by rw [c])
  · rw [if_neg c]; exact h2 c (fun z => c (Int32.toInt_inj.mp z))
theorem dFix_ok {α β : Type} {F : (α → Option β) → α → Option β} {P : β → Prop} (I : α → Prop) (μ : α → Nat)
    (h : ∀ a : α, I a → ∀ k : α → Option β, (∀ a' : α, I a' → μ a' < μ a → dOk (k a') P) → dOk (F k a) P) :
    ∀ a : α, I a → ∀ n : Nat, μ a < n → dOk (dFix F n a) P := by
  intro a ha n
  induction n generalizing a with
  | zero => intro hn; omega
  | succ n ih =>
    intro hn
    exact h a ha (dFix F n) (fun a' ha' hm => ih a' ha' (by omega))
theorem dF_gt {m : Nat} (h : m < 1000000000000) : m < dF := Nat.lt_of_lt_of_le h dF_ge
/-! numbers as integers -/
theorem ti_add {a b : Int32} {A B : Int} (ha : a.toInt = A) (hb : b.toInt = B) (h1 : -2147483648 ≤ A + B) (h2 : A + B ≤ 2147483647) : (a + b).toInt = A + B := by
  rw [Int32.toInt_add, ha, hb]
  exact Int.bmod_eq_of_le (by omega) (by omega)
theorem ti_sub {a b : Int32} {A B : Int} (ha : a.toInt = A) (hb : b.toInt = B) (h1 : -2147483648 ≤ A - B) (h2 : A - B ≤ 2147483647) : (a - b).toInt = A - B := by
  rw [Int32.toInt_sub, ha, hb]
  exact Int.bmod_eq_of_le (by omega) (by omega)
theorem ti_mul {a b : Int32} {A B : Int} (ha : a.toInt = A) (hb : b.toInt = B) (h1 : -2147483648 ≤ A * B) (h2 : A * B ≤ 2147483647) : (a * b).toInt = A * B := by
  rw [Int32.toInt_mul, ha, hb]
  exact Int.bmod_eq_of_le (by omega) (by omega)
theorem ti_neg {a : Int32} {A : Int} (ha : a.toInt = A) (h1 : -2147483648 ≤ -A) (h2 : -A ≤ 2147483647) : (-a).toInt = -A := by
  rw [Int32.toInt_neg, ha]
  exact Int.bmod_eq_of_le (by omega) (by omega)
theorem ti_div {a b : Int32} {A B : Int} (ha : a.toInt = A) (hb : b.toInt = B) (h1 : 0 ≤ A) (h2 : 0 < B) : (a / b).toInt = A / B := by
  have h3 := a.toInt_lt
  have h4 : A / B ≤ A := Int.ediv_le_self B h1
  have h5 : 0 ≤ A / B := Int.ediv_nonneg h1 (Int.le_of_lt h2)
  rw [Int32.toInt_div, ha, hb, Int.tdiv_eq_ediv_of_nonneg h1]
  exact Int.bmod_eq_of_le (by omega) (by omega)
theorem ti_rem {a b : Int32} {A B : Int} (ha : a.toInt = A) (hb : b.toInt = B) (h1 : 0 ≤ A) (h2 : 0 < B) : (a - a / b * b).toInt = A % B := by
  have h3 := a.toInt_lt
  have h0 := ti_div ha hb h1 h2
  have h4 : A / B * B ≤ A := Int.ediv_mul_le A (by omega)
  have h5 : 0 ≤ A / B := Int.ediv_nonneg h1 (Int.le_of_lt h2)
  have h6 : 0 ≤ A / B * B := Int.mul_nonneg h5 (Int.le_of_lt h2)
  have h7 : (a / b * b).toInt = A / B * B := ti_mul h0 hb (by omega) (by omega)
  rw [ti_sub ha h7 (by omega) (by omega)]
  have h8 := Int.mul_ediv_add_emod A B
  rw [Int.mul_comm] at h8
  omega
theorem ti_rg (x : Int32) : -2147483648 ≤ x.toInt ∧ x.toInt ≤ 2147483647 := by
  have h1 := x.le_toInt
  have h2 := x.toInt_lt
  omega
theorem ti_and1 (x : Int32) : 0 ≤ (x &&& 1).toInt ∧ (x &&& 1).toInt ≤ 1 := by
  have h := pk_and x (m := 1) 1 (by decide)
  rw [h, nI_toInt (by omega)]
  omega
theorem ti_and255 (x : Int32) : 0 ≤ (x &&& 255).toInt ∧ (x &&& 255).toInt ≤ 255 := by
  have h := pk_and x (m := 255) 8 (by decide)
  rw [h, nI_toInt (by omega)]
  omega
theorem ti_nI {x : Int32} (h : 0 ≤ x.toInt) : ∃ n : Nat, x = nI n ∧ (n : Int) = x.toInt ∧ n < 2147483648 := by
  have h2 := ti_rg x
  refine ⟨x.toInt.toNat, ?_, by omega, by omega⟩
  apply Int32.toInt_inj.mp
  rw [nI_toInt (by omega)]
  omega
theorem nI_or (a b : Nat) : nI a ||| nI b = nI (a ||| b) := by
  apply Int32.toBitVec_inj.1
  show BitVec.ofNat 32 a ||| BitVec.ofNat 32 b = BitVec.ofNat 32 (a ||| b)
  apply BitVec.eq_of_getLsbD_eq
  intro i hi
  simp [hi]
theorem ti_or {x y : Int32} (k : Nat) (hk : k < 31) (hx : 0 ≤ x.toInt) (hx2 : x.toInt < 2 ^ k) (hy : 0 ≤ y.toInt) (hy2 : y.toInt < 2 ^ k) : 0 ≤ (x ||| y).toInt ∧ (x ||| y).toInt < 2 ^ k := by
  obtain ⟨n, rfl, hn, hn2⟩ := ti_nI hx
  obtain ⟨m, rfl, hm, hm2⟩ := ti_nI hy
  rw [nI_or]
  have e1 : n < 2 ^ k := by rw [← hn] at hx2; exact_mod_cast hx2
  have e2 : m < 2 ^ k := by rw [← hm] at hy2; exact_mod_cast hy2
  have e3 : n ||| m < 2 ^ k := Nat.or_lt_two_pow e1 e2
  have e4 : 2 ^ k < 2 ^ 31 := Nat.pow_lt_pow_right (by decide) hk
  rw [nI_toInt (by omega)]
  refine ⟨by omega, ?_⟩
  exact_mod_cast e3
theorem sh_bit : ∀ n : Nat, n < 2 → ∀ k : Nat, k < 7 → nI n <<< (nI k &&& 31) = nI (n * 2 ^ k) := by decide +kernel
theorem ti_shl {x s : Int32} (hx : 0 ≤ x.toInt) (hx2 : x.toInt ≤ 1) (hs : 0 ≤ s.toInt) (hs2 : s.toInt ≤ 6) : (x <<< (s &&& 31)).toInt = x.toInt * 2 ^ s.toInt.toNat := by
  obtain ⟨n, rfl, hn, hn2⟩ := ti_nI hx
  obtain ⟨m, rfl, hm, hm2⟩ := ti_nI hs
  rw [sh_bit n (by omega) m (by omega)]
  have h2 : (2 : Nat) ^ m ≤ 2 ^ 6 := Nat.pow_le_pow_right (by decide) (by omega)
  have h3 : n * 2 ^ m ≤ 1 * 2 ^ 6 := Nat.mul_le_mul (by omega) h2
  rw [nI_toInt (by omega), ← hn, ← hm]
  simp
theorem ti_pw {n : Nat} (h : n ≤ 6) : (n = 0 ∧ (2 : Int) ^ n = 1) ∨ (n = 1 ∧ (2 : Int) ^ n = 2) ∨ (n = 2 ∧ (2 : Int) ^ n = 4) ∨ (n = 3 ∧ (2 : Int) ^ n = 8) ∨ (n = 4 ∧ (2 : Int) ^ n = 16) ∨ (n = 5 ∧ (2 : Int) ^ n = 32) ∨ (n = 6 ∧ (2 : Int) ^ n = 64) := by
  have : ∀ n : Nat, n ≤ 6 → (n = 0 ∧ (2 : Int) ^ n = 1) ∨ (n = 1 ∧ (2 : Int) ^ n = 2) ∨ (n = 2 ∧ (2 : Int) ^ n = 4) ∨ (n = 3 ∧ (2 : Int) ^ n = 8) ∨ (n = 4 ∧ (2 : Int) ^ n = 16) ∨ (n = 5 ∧ (2 : Int) ^ n = 32) ∨ (n = 6 ∧ (2 : Int) ^ n = 64) := by decide +kernel
  exact this n h
/-! guards -/
theorem dg_ok {i : Int32} {n : Nat} (h0 : 0 ≤ i.toInt) (h1 : i.toInt < n) : dg i n = true := by
  apply decide_eq_true
  intro h
  rcases h with h | h
  · have h2 := Int32.lt_iff_toInt_lt.mp h
    have h3 : (0 : Int32).toInt = 0 := rfl
    omega
  · have h2 : i.toNatClampNeg = i.toInt.toNat := rfl
    omega
theorem cl_eq {i : Int32} (h : 0 ≤ i.toInt) : ((i.toNatClampNeg : Nat) : Int) = i.toInt := by
  have h2 : i.toNatClampNeg = i.toInt.toNat := rfl
  omega
theorem dbl_ok {v : Int32} (h : v.toInt = 0 ∨ v.toInt = 1) : dbl v = true := by
  apply decide_eq_true
  rcases h with h | h
  · exact Or.inl (Int32.toInt_inj.mp h)
  · exact Or.inr (Int32.toInt_inj.mp h)
theorem dnz_ok {v : Int32} (h : ¬ v.toInt = 0) : dnz v = true := by
  apply decide_eq_true
  intro z
  subst z
  exact h rfl
theorem dnl_ok {v : Int64} (h : ¬ v = 0) : dnl v = true := decide_eq_true h
/-! stores -/
theorem dui_o {q : dS} {j k j' : Nat} {v : Int32} (h : ¬ j' = j) : (dui q j k v).1 j' = q.1 j' := if_neg h
theorem dui_s {q : dS} {j k : Nat} {v : Int32} : (dui q j k v).1 j = upd (q.1 j) k v := if_pos rfl
theorem dui_n {q : dS} {j k i : Nat} {v : Int32} (h : ¬ i = k) : (dui q j k v).1 j i = q.1 j i := by rw [dui_s]; exact if_neg h
theorem dui_e {q : dS} {j k : Nat} {v : Int32} : (dui q j k v).1 j k = v := by rw [dui_s]; exact if_pos rfl
theorem dui_2 {q : dS} {j k : Nat} {v : Int32} : (dui q j k v).2 = q.2 := rfl
theorem dul_1 {q : dS} {j k : Nat} {v : Int64} : (dul q j k v).1 = q.1 := rfl
/-! what stays: rows outside of S, fields outside of F -/
def dFr (S F : List Nat) (q q' : dS) : Prop := (∀ j : Nat, j ∉ S → j ≠ 0 → q'.1 j = q.1 j) ∧ (∀ k : Nat, k ∉ F → q'.1 0 k = q.1 0 k)
theorem dFr.rf {S F : List Nat} {q : dS} : dFr S F q q := ⟨fun _ _ _ => rfl, fun _ _ => rfl⟩
theorem dFr.i {S F : List Nat} {q q' : dS} (h : dFr S F q q') {j k : Nat} {v : Int32} (hj : j ∈ S) (h0 : j ≠ 0) : dFr S F q (dui q' j k v) := by
  refine ⟨fun a ha h1 => ?_, fun a ha => ?_⟩
  · rw [dui_o (fun z => ha (by rw [z]; exact hj))]; exact h.1 a ha h1
  · rw [dui_o (fun z => h0 z.symm)]; exact h.2 a ha
theorem dFr.f {S F : List Nat} {q q' : dS} (h : dFr S F q q') {k : Nat} {v : Int32} (hk : k ∈ F) : dFr S F q (dui q' 0 k v) := by
  refine ⟨fun a ha h1 => ?_, fun a ha => ?_⟩
  · rw [dui_o h1]; exact h.1 a ha h1
  · rw [dui_n (fun z => ha (by rw [z]; exact hk))]; exact h.2 a ha
theorem dFr.l {S F : List Nat} {q q' : dS} (h : dFr S F q q') {j k : Nat} {v : Int64} : dFr S F q (dul q' j k v) := h
theorem dFr.t {S F S2 F2 : List Nat} {q q' q2 : dS} (h : dFr S F q q') (h2 : dFr S2 F2 q' q2) (hS : ∀ a ∈ S2, a ∈ S) (hF : ∀ a ∈ F2, a ∈ F) : dFr S F q q2 :=
  ⟨fun a ha h1 => (h2.1 a (fun z => ha (hS a z)) h1).trans (h.1 a ha h1), fun a ha => (h2.2 a (fun z => ha (hF a z))).trans (h.2 a ha)⟩
theorem dFr.w {S F S2 F2 : List Nat} {q q2 : dS} (h2 : dFr S2 F2 q q2) (hS : ∀ a ∈ S2, a ∈ S) (hF : ∀ a ∈ F2, a ∈ F) : dFr S F q q2 := dFr.rf.t h2 hS hF
def rg (x : Int32) (a b : Int) : Prop := a ≤ x.toInt ∧ x.toInt ≤ b
theorem ti_shl5 {x s : Int32} (hx : 0 ≤ x.toInt) (hx2 : x.toInt ≤ 1) (hs : 0 ≤ s.toInt) (hs2 : s.toInt ≤ 5) : 0 ≤ (x <<< (s &&& 31)).toInt ∧ (x <<< (s &&& 31)).toInt ≤ 32 := by
  obtain ⟨n, rfl, hn, hn2⟩ := ti_nI hx
  obtain ⟨m, rfl, hm, hm2⟩ := ti_nI hs
  rw [sh_bit n (by omega) m (by omega)]
  have h2 : (2 : Nat) ^ m ≤ 2 ^ 5 := Nat.pow_le_pow_right (by decide) (by omega)
  have h3 : n * 2 ^ m ≤ 1 * 2 ^ 5 := Nat.mul_le_mul (by omega) h2
  rw [nI_toInt (by omega)]
  omega
theorem ti_shl6 {x s : Int32} (hx : 0 ≤ x.toInt) (hx2 : x.toInt ≤ 1) (hs : 0 ≤ s.toInt) (hs2 : s.toInt ≤ 6) : 0 ≤ (x <<< (s &&& 31)).toInt ∧ (x <<< (s &&& 31)).toInt ≤ 64 := by
  obtain ⟨n, rfl, hn, hn2⟩ := ti_nI hx
  obtain ⟨m, rfl, hm, hm2⟩ := ti_nI hs
  rw [sh_bit n (by omega) m (by omega)]
  have h2 : (2 : Nat) ^ m ≤ 2 ^ 6 := Nat.pow_le_pow_right (by decide) (by omega)
  have h3 : n * 2 ^ m ≤ 1 * 2 ^ 6 := Nat.mul_le_mul (by omega) h2
  rw [nI_toInt (by omega)]
  omega
theorem tl_add {a b : Int64} {A B : Int} (ha : a.toInt = A) (hb : b.toInt = B) (h1 : -9223372036854775808 ≤ A + B) (h2 : A + B ≤ 9223372036854775807) : (a + b).toInt = A + B := by
  rw [Int64.toInt_add, ha, hb]
  exact Int.bmod_eq_of_le (by omega) (by omega)
theorem tl_sub {a b : Int64} {A B : Int} (ha : a.toInt = A) (hb : b.toInt = B) (h1 : -9223372036854775808 ≤ A - B) (h2 : A - B ≤ 9223372036854775807) : (a - b).toInt = A - B := by
  rw [Int64.toInt_sub, ha, hb]
  exact Int.bmod_eq_of_le (by omega) (by omega)
theorem tl_mul {a b : Int64} {A B : Int} (ha : a.toInt = A) (hb : b.toInt = B) (h1 : -9223372036854775808 ≤ A * B) (h2 : A * B ≤ 9223372036854775807) : (a * b).toInt = A * B := by
  rw [Int64.toInt_mul, ha, hb]
  exact Int.bmod_eq_of_le (by omega) (by omega)
theorem tl_div {a b : Int64} {A B : Int} (ha : a.toInt = A) (hb : b.toInt = B) (h1 : 0 ≤ A) (h2 : 0 < B) : (a / b).toInt = A / B := by
  have h3 := a.toInt_lt
  have h4 : A / B ≤ A := Int.ediv_le_self B h1
  have h5 : 0 ≤ A / B := Int.ediv_nonneg h1 (Int.le_of_lt h2)
  rw [Int64.toInt_div, ha, hb, Int.tdiv_eq_ediv_of_nonneg h1]
  exact Int.bmod_eq_of_le (by omega) (by omega)
theorem tl_rem {a b : Int64} {A B : Int} (ha : a.toInt = A) (hb : b.toInt = B) (h1 : 0 ≤ A) (h2 : 0 < B) : (a - a / b * b).toInt = A % B := by
  have h3 := a.toInt_lt
  have h0 := tl_div ha hb h1 h2
  have h4 : A / B * B ≤ A := Int.ediv_mul_le A (by omega)
  have h5 : 0 ≤ A / B := Int.ediv_nonneg h1 (Int.le_of_lt h2)
  have h6 : 0 ≤ A / B * B := Int.mul_nonneg h5 (Int.le_of_lt h2)
  have h7 : (a / b * b).toInt = A / B * B := tl_mul h0 hb (by omega) (by omega)
  rw [tl_sub ha h7 (by omega) (by omega)]
  have h8 := Int.mul_ediv_add_emod A B
  rw [Int.mul_comm] at h8
  omega
def facI (n : Int) : Int := if n ≤ 1 then 1 else if n = 2 then 2 else if n = 3 then 6 else if n = 4 then 24 else if n = 5 then 120 else 720
def powI (n : Int) : Int := if n = 0 then 1 else if n = 1 then 2 else if n = 2 then 4 else if n = 3 then 8 else if n = 4 then 16 else if n = 5 then 32 else 64
theorem ti_shlP {s : Int32} (hs : 0 ≤ s.toInt) (hs2 : s.toInt ≤ 6) : ((1 : Int32) <<< (s &&& 31)).toInt = powI s.toInt := by
  obtain ⟨m, rfl, hm, hm2⟩ := ti_nI hs
  have h : ∀ k : Nat, k < 7 → ((1 : Int32) <<< (nI k &&& 31)).toInt = powI k := by decide +kernel
  rw [h m (by omega), ← hm]
/-! the same, and of row 2 what lies from place 14 on -/
def dFk (S F : List Nat) (q q' : dS) : Prop := dFr S F q q' ∧ ∀ i : Nat, 14 ≤ i → q'.1 2 i = q.1 2 i
theorem dFk.rf {S F : List Nat} {q : dS} : dFk S F q q := ⟨dFr.rf, fun _ _ => rfl⟩
theorem dFk.i {S F : List Nat} {q q' : dS} (h : dFk S F q q') {j k : Nat} {v : Int32} (hj : j ∈ S) (h0 : j ≠ 0) (h2 : ¬ 2 = j) : dFk S F q (dui q' j k v) := ⟨h.1.i hj h0, fun i hi => by rw [dui_o h2]; exact h.2 i hi⟩
theorem dFk.k {S F : List Nat} {q q' : dS} (h : dFk S F q q') {k : Nat} {v : Int32} (hk : k < 14) (hj : 2 ∈ S) : dFk S F q (dui q' 2 k v) := ⟨h.1.i hj (by decide), fun i hi => by rw [dui_n (by omega)]; exact h.2 i hi⟩
theorem dFk.f {S F : List Nat} {q q' : dS} (h : dFk S F q q') {k : Nat} {v : Int32} (hk : k ∈ F) : dFk S F q (dui q' 0 k v) := ⟨h.1.f hk, fun i hi => by rw [dui_o (by decide)]; exact h.2 i hi⟩
theorem dFk.l {S F : List Nat} {q q' : dS} (h : dFk S F q q') {j k : Nat} {v : Int64} : dFk S F q (dul q' j k v) := h
theorem dFk.t {S F S2 F2 : List Nat} {q q' q2 : dS} (h : dFk S F q q') (h2 : dFk S2 F2 q' q2) (hS : ∀ a ∈ S2, a ∈ S) (hF : ∀ a ∈ F2, a ∈ F) : dFk S F q q2 := ⟨h.1.t h2.1 hS hF, fun i hi => (h2.2 i hi).trans (h.2 i hi)⟩
theorem dFk.tr {S F S2 F2 : List Nat} {q q' q2 : dS} (h : dFk S F q q') (h2 : dFr S2 F2 q' q2) (hS : ∀ a ∈ S2, a ∈ S) (hF : ∀ a ∈ F2, a ∈ F) (hn : 2 ∉ S2) : dFk S F q q2 := ⟨h.1.t h2 hS hF, fun i hi => by rw [h2.1 2 hn (by decide)]; exact h.2 i hi⟩
