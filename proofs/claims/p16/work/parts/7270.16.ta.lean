/-! a tower as numbers: how many, ranks, heads, paid, year -/
abbrev At := Int × (Nat → Int) × (Nat → Int) × Int × Int
def i6 (f : Nat → Int32) : Nat → Int := fun i => if i < 6 then Int32.toInt (f i) else 0
theorem i6_l {f : Nat → Int32} {i : Nat} (h : i < 6) : i6 f i = Int32.toInt (f i) := if_pos h
theorem i6_e {f g : Nat → Int32} (h : ∀ i : Nat, i < 6 → Int32.toInt (f i) = Int32.toInt (g i)) : i6 f = i6 g := by
  funext i
  show (if i < 6 then Int32.toInt (f i) else 0) = (if i < 6 then Int32.toInt (g i) else 0)
  by_cases c : i < 6
  · rw [if_pos c, if_pos c, h i c]
  · rw [if_neg c, if_neg c]
def aT (t : Nat) (q : dK) : At := (Int32.toInt (q.1 t 2), i6 (q.1 (t + 1)), i6 (q.1 (t + 2)), Int32.toInt (q.1 t 3), Int32.toInt (q.1 t 4))
def pkN (a : At) : Nat → Int
  | 0 => a.1
  | j + 1 => 16 * pkN a j + 2 * a.2.1 j + a.2.2.1 j
def pk (a : At) : Int := (pkN a 6 * 16384 + a.2.2.2.1) * 1024 + a.2.2.2.2
def dq (x : Int) : Nat → Int
  | 0 => x / 281474976710656
  | 1 => x / 17592186044416
  | 2 => x / 1099511627776
  | 3 => x / 68719476736
  | 4 => x / 4294967296
  | 5 => x / 268435456
  | 6 => x / 16777216
  | _ => x
def unp (x : Int) : At := (if dq x 0 < 6 then dq x 0 else 6, fun i => if i < 6 then dq x (i + 1) / 2 % 8 else 0, fun i => if i < 6 then dq x (i + 1) % 2 else 0, x / 1024 % 16384, x % 1024)
theorem dq_s (x : Int) (m : Nat) (h : m < 6) : dq x m = dq x (m + 1) / 16 := by
  have hc : m = 0 ∨ m = 1 ∨ m = 2 ∨ m = 3 ∨ m = 4 ∨ m = 5 := by omega
  rcases hc with e | e | e | e | e | e <;> subst e
  · show x / 281474976710656 = x / 17592186044416 / 16
    omega
  · show x / 17592186044416 = x / 1099511627776 / 16
    omega
  · show x / 1099511627776 = x / 68719476736 / 16
    omega
  · show x / 68719476736 = x / 4294967296 / 16
    omega
  · show x / 4294967296 = x / 268435456 / 16
    omega
  · show x / 268435456 = x / 16777216 / 16
    omega
theorem dq_0 {x : Int} (h : 0 ≤ x) (m : Nat) : 0 ≤ dq x m := by
  unfold dq
  split <;> first | exact h | exact Int.ediv_nonneg h (by decide)
theorem sp_16 {P r s : Int} (h0 : 0 ≤ r) (h1 : r ≤ 7) (h2 : 0 ≤ s) (h3 : s ≤ 1) : (16 * P + 2 * r + s) / 16 = P ∧ (16 * P + 2 * r + s) / 2 % 8 = r ∧ (16 * P + 2 * r + s) % 2 = s := ⟨by omega, by omega, by omega⟩
theorem sp_24 {P p y : Int} (h0 : 0 ≤ p) (h1 : p ≤ 16383) (h2 : 0 ≤ y) (h3 : y ≤ 1023) : ((P * 16384 + p) * 1024 + y) / 16777216 = P ∧ ((P * 16384 + p) * 1024 + y) / 1024 % 16384 = p ∧ ((P * 16384 + p) * 1024 + y) % 1024 = y := ⟨by omega, by omega, by omega⟩
/-- what a tower's numbers can be -/
def aOk (a : At) : Prop := 0 ≤ a.1 ∧ a.1 ≤ 6 ∧ (∀ i : Nat, i < 6 → 0 ≤ a.2.1 i ∧ a.2.1 i ≤ 7 ∧ 0 ≤ a.2.2.1 i ∧ a.2.2.1 i ≤ 1) ∧ (∀ i : Nat, ¬ i < 6 → a.2.1 i = 0 ∧ a.2.2.1 i = 0) ∧ 0 ≤ a.2.2.2.1 ∧ a.2.2.2.1 ≤ 16383 ∧ 0 ≤ a.2.2.2.2 ∧ a.2.2.2.2 ≤ 1023
theorem i6_0 {f : Nat → Int32} {i : Nat} (h : ¬ i < 6) : i6 f i = 0 := if_neg h
theorem unp_pk {a : At} (h : aOk a) : unp (pk a) = a := by
  obtain ⟨n, f, g, p, y⟩ := a
  obtain ⟨h0, h1, h2, h3, h4, h5, h6, h7⟩ := h
  replace h0 : 0 ≤ n := h0
  replace h1 : n ≤ 6 := h1
  replace h2 : ∀ i : Nat, i < 6 → 0 ≤ f i ∧ f i ≤ 7 ∧ 0 ≤ g i ∧ g i ≤ 1 := h2
  replace h3 : ∀ i : Nat, ¬ i < 6 → f i = 0 ∧ g i = 0 := h3
  replace h4 : 0 ≤ p := h4
  replace h5 : p ≤ 16383 := h5
  replace h6 : 0 ≤ y := h6
  replace h7 : y ≤ 1023 := h7
  obtain ⟨a0, b0, c0, d0⟩ := h2 0 (by decide)
  obtain ⟨a1, b1, c1, d1⟩ := h2 1 (by decide)
  obtain ⟨a2, b2, c2, d2⟩ := h2 2 (by decide)
  obtain ⟨a3, b3, c3, d3⟩ := h2 3 (by decide)
  obtain ⟨a4, b4, c4, d4⟩ := h2 4 (by decide)
  obtain ⟨a5, b5, c5, d5⟩ := h2 5 (by decide)
  obtain ⟨P1, e1⟩ : ∃ z : Int, z = 16 * n + 2 * f 0 + g 0 := ⟨_, rfl⟩
  obtain ⟨P2, e2⟩ : ∃ z : Int, z = 16 * P1 + 2 * f 1 + g 1 := ⟨_, rfl⟩
  obtain ⟨P3, e3⟩ : ∃ z : Int, z = 16 * P2 + 2 * f 2 + g 2 := ⟨_, rfl⟩
  obtain ⟨P4, e4⟩ : ∃ z : Int, z = 16 * P3 + 2 * f 3 + g 3 := ⟨_, rfl⟩
  obtain ⟨P5, e5⟩ : ∃ z : Int, z = 16 * P4 + 2 * f 4 + g 4 := ⟨_, rfl⟩
  obtain ⟨P6, e6⟩ : ∃ z : Int, z = 16 * P5 + 2 * f 5 + g 5 := ⟨_, rfl⟩
  have ex : pk (n, f, g, p, y) = (P6 * 16384 + p) * 1024 + y := by rw [e6, e5, e4, e3, e2, e1]; rfl
  rw [ex]
  obtain ⟨x, hx⟩ : ∃ z : Int, z = (P6 * 16384 + p) * 1024 + y := ⟨_, rfl⟩
  rw [← hx]
  have kx := sp_24 (P := P6) h4 h5 h6 h7
  rw [← hx] at kx
  have k6 : dq x 6 = P6 := kx.1
  have s5 := sp_16 (P := P5) a5 b5 c5 d5
  rw [← e6] at s5
  have k5 : dq x 5 = P5 := by rw [dq_s x 5 (by decide)]; show dq x 6 / 16 = P5; rw [k6]; exact s5.1
  have s4 := sp_16 (P := P4) a4 b4 c4 d4
  rw [← e5] at s4
  have k4 : dq x 4 = P4 := by rw [dq_s x 4 (by decide)]; show dq x 5 / 16 = P4; rw [k5]; exact s4.1
  have s3 := sp_16 (P := P3) a3 b3 c3 d3
  rw [← e4] at s3
  have k3 : dq x 3 = P3 := by rw [dq_s x 3 (by decide)]; show dq x 4 / 16 = P3; rw [k4]; exact s3.1
  have s2 := sp_16 (P := P2) a2 b2 c2 d2
  rw [← e3] at s2
  have k2 : dq x 2 = P2 := by rw [dq_s x 2 (by decide)]; show dq x 3 / 16 = P2; rw [k3]; exact s2.1
  have s1 := sp_16 (P := P1) a1 b1 c1 d1
  rw [← e2] at s1
  have k1 : dq x 1 = P1 := by rw [dq_s x 1 (by decide)]; show dq x 2 / 16 = P1; rw [k2]; exact s1.1
  have s0 := sp_16 (P := n) a0 b0 c0 d0
  rw [← e1] at s0
  have k0 : dq x 0 = n := by rw [dq_s x 0 (by decide)]; show dq x 1 / 16 = n; rw [k1]; exact s0.1
  have ep : x / 1024 % 16384 = p := kx.2.1
  have ey : x % 1024 = y := kx.2.2
  show (_, _, _, _, _) = (n, f, g, p, y)
  refine Prod.ext ?_ (Prod.ext ?_ (Prod.ext ?_ (Prod.ext ep ey)))
  · show (if dq x 0 < 6 then dq x 0 else 6) = n
    rw [k0]
    by_cases c : n < 6
    · rw [if_pos c]
    · rw [if_neg c]; omega
  · show (fun i : Nat => if i < 6 then dq x (i + 1) / 2 % 8 else 0) = f
    funext i
    by_cases c : i < 6
    · rw [if_pos c]
      have hc : i = 0 ∨ i = 1 ∨ i = 2 ∨ i = 3 ∨ i = 4 ∨ i = 5 := by omega
      rcases hc with e | e | e | e | e | e <;> subst e
      · show dq x 1 / 2 % 8 = f 0
        rw [k1]; exact s0.2.1
      · show dq x 2 / 2 % 8 = f 1
        rw [k2]; exact s1.2.1
      · show dq x 3 / 2 % 8 = f 2
        rw [k3]; exact s2.2.1
      · show dq x 4 / 2 % 8 = f 3
        rw [k4]; exact s3.2.1
      · show dq x 5 / 2 % 8 = f 4
        rw [k5]; exact s4.2.1
      · show dq x 6 / 2 % 8 = f 5
        rw [k6]; exact s5.2.1
    · rw [if_neg c]; exact (h3 i c).1.symm
  · show (fun i : Nat => if i < 6 then dq x (i + 1) % 2 else 0) = g
    funext i
    by_cases c : i < 6
    · rw [if_pos c]
      have hc : i = 0 ∨ i = 1 ∨ i = 2 ∨ i = 3 ∨ i = 4 ∨ i = 5 := by omega
      rcases hc with e | e | e | e | e | e <;> subst e
      · show dq x 1 % 2 = g 0
        rw [k1]; exact s0.2.2
      · show dq x 2 % 2 = g 1
        rw [k2]; exact s1.2.2
      · show dq x 3 % 2 = g 2
        rw [k3]; exact s2.2.2
      · show dq x 4 % 2 = g 3
        rw [k4]; exact s3.2.2
      · show dq x 5 % 2 = g 4
        rw [k5]; exact s4.2.2
      · show dq x 6 % 2 = g 5
        rw [k6]; exact s5.2.2
    · rw [if_neg c]; exact (h3 i c).2.symm
theorem w_nat {x : Int64} (h0 : 0 ≤ x.toInt) : x.toInt = (x.toBitVec.toNat : Int) := by
  have hl := x.toBitVec.isLt
  replace h0 : 0 ≤ x.toBitVec.toInt := h0
  show x.toBitVec.toInt = _
  rw [BitVec.toInt_eq_toNat_cond] at h0 ⊢
  by_cases c : 2 * x.toBitVec.toNat < 2 ^ 64
  · rw [if_pos c]
  · rw [if_neg c] at h0
    omega
theorem w_am {x m : Int64} (k : Nat) (hm : m.toBitVec.toNat = 2 ^ k - 1) (hk : k ≤ 30) (h0 : 0 ≤ x.toInt) : (Int64.toInt32 (x &&& m)).toInt = ((x.toBitVec.toNat % 2 ^ k : Nat) : Int) := by
  have h1 : (x.toBitVec &&& m.toBitVec).toNat = x.toBitVec.toNat % 2 ^ k := by rw [BitVec.toNat_and, hm, Nat.and_two_pow_sub_one_eq_mod]
  have hp : 2 ^ k ≤ 2 ^ 30 := Nat.pow_le_pow_right (by decide) hk
  have h3 : x.toBitVec.toNat % 2 ^ k < 2 ^ k := Nat.mod_lt _ (Nat.two_pow_pos k)
  have h2 : (x &&& m).toInt = ((x.toBitVec &&& m.toBitVec).toNat : Int) := by
    show (x.toBitVec &&& m.toBitVec).toInt = _
    rw [BitVec.toInt_eq_toNat_cond, if_pos (by omega)]
  rw [w_i32 (by omega) (by omega), h2, h1]
theorem w_a1 {x : Int64} (h0 : 0 ≤ x.toInt) : (Int64.toInt32 (x &&& 1)).toInt = x.toInt % 2 := by
  rw [w_am 1 (by decide) (by decide) h0, w_nat h0]
  omega
theorem w_a3 {x : Int64} (h0 : 0 ≤ x.toInt) : (Int64.toInt32 (x &&& 7)).toInt = x.toInt % 8 := by
  rw [w_am 3 (by decide) (by decide) h0, w_nat h0]
  omega
theorem w_a10 {x : Int64} (h0 : 0 ≤ x.toInt) : (Int64.toInt32 (x &&& 1023)).toInt = x.toInt % 1024 := by
  rw [w_am 10 (by decide) (by decide) h0, w_nat h0]
  omega
theorem w_a14 {x : Int64} (h0 : 0 ≤ x.toInt) : (Int64.toInt32 (x &&& 16383)).toInt = x.toInt % 16384 := by
  rw [w_am 14 (by decide) (by decide) h0, w_nat h0]
  omega
theorem us_1 (x : Int64) : (x >>> (Int32.toInt64 (1 : Int32) &&& 63)).toInt = x.toInt / 2 ^ 1 := w_shr x _ (by decide)
theorem us_10 (x : Int64) : (x >>> (Int32.toInt64 (10 : Int32) &&& 63)).toInt = x.toInt / 2 ^ 10 := w_shr x _ (by decide)
theorem pk_end2 {x : Int64} {p y : Int32} (hx0 : 0 ≤ x.toInt) (hx : x.toInt < 134217728) (hp0 : 0 ≤ p.toInt) (hp : p.toInt ≤ 16383) (hy0 : 0 ≤ y.toInt) (hy : y.toInt ≤ 1023) : ((((x <<< (Int32.toInt64 (14 : Int32) &&& 63)) ||| Int32.toInt64 p) <<< (Int32.toInt64 (10 : Int32) &&& 63)) ||| Int32.toInt64 y).toInt = (x.toInt * 16384 + p.toInt) * 1024 + y.toInt := by
  have e1 : (x <<< (Int32.toInt64 (14 : Int32) &&& 63)).toInt = x.toInt * 2 ^ 14 := w_shl x _ (by decide) (by omega) (by omega)
  have e2 : (Int32.toInt64 p).toInt = p.toInt := Int32.toInt_toInt64 p
  have e3 : (Int32.toInt64 y).toInt = y.toInt := Int32.toInt_toInt64 y
  have e4 := k2_or_add (x := x <<< (Int32.toInt64 (14 : Int32) &&& 63)) (y := Int32.toInt64 p) (k := 14) (z := x.toInt) (by decide) hx0 e1 (by omega) (by omega) (by omega)
  generalize hg : (x <<< (Int32.toInt64 (14 : Int32) &&& 63)) ||| Int32.toInt64 p = g at e4 ⊢
  have e5 : (g <<< (Int32.toInt64 (10 : Int32) &&& 63)).toInt = g.toInt * 2 ^ 10 := w_shl g _ (by decide) (by omega) (by omega)
  have e6 := k2_or_add (x := g <<< (Int32.toInt64 (10 : Int32) &&& 63)) (y := Int32.toInt64 y) (k := 10) (z := g.toInt) (by decide) (by omega) e5 (by omega) (by omega) (by omega)
  rw [e6]
  omega
/-- two floors change places -/
def sw (a b : Nat) (f : Nat → Int) : Nat → Int := fun i => if i = b then f a else if i = a then f b else f i
def exA (a b : Nat) (T : At) : At := (T.1, sw a b T.2.1, sw a b T.2.2.1, T.2.2.2.1, T.2.2.2.2)
/-- the top k the other way round -/
def rvA (k : Nat) (f : Nat → Int) : Nat → Int := fun i => if i < k then f (k - 1 - i) else f i
def rhA (k : Nat) (f : Nat → Int) : Nat → Int := fun i => if i < k then 1 - f (k - 1 - i) else f i
def tuA (k : Nat) (pay : Int) (T : At) : At := (T.1, rvA k T.2.1, rhA k T.2.2.1, if T.2.2.2.1 + pay < 9999 then T.2.2.2.1 + pay else 9999, T.2.2.2.2)
def riA (p : Nat) (T : At) : At := (T.1, T.2.1, fun i => if i = p then 1 - T.2.2.1 i else T.2.2.1 i, T.2.2.2.1, T.2.2.2.2)
/-- a floor below the others -/
def adA (r h : Int) (T : At) : At := (T.1 + 1, fun i => if (i : Int) = T.1 then r else T.2.1 i, fun i => if (i : Int) = T.1 then h else T.2.2.1 i, T.2.2.2.1, T.2.2.2.2)
theorem i6_upd {f : Nat → Int32} {k : Nat} {v : Int32} (hk : k < 6) : i6 (upd f k v) = fun i => if i = k then Int32.toInt v else i6 f i := by
  funext i
  show (if i < 6 then Int32.toInt (if i = k then v else f i) else 0) = _
  by_cases c : i = k
  · subst c; rw [if_pos hk, if_pos rfl, if_pos rfl]
  · rw [if_neg c, if_neg c]; rfl
theorem aT_ok {t : Nat} {q : dK} (hn : 0 ≤ Int32.toInt (q.1 t 2) ∧ Int32.toInt (q.1 t 2) ≤ 6) (hr : ∀ i : Nat, 0 ≤ Int32.toInt (q.1 (t + 1) i) ∧ Int32.toInt (q.1 (t + 1) i) ≤ 7) (hh : ∀ i : Nat, 0 ≤ Int32.toInt (q.1 (t + 2) i) ∧ Int32.toInt (q.1 (t + 2) i) ≤ 1) (hp : 0 ≤ Int32.toInt (q.1 t 3) ∧ Int32.toInt (q.1 t 3) ≤ 16383) (hy : 0 ≤ Int32.toInt (q.1 t 4) ∧ Int32.toInt (q.1 t 4) ≤ 1023) : aOk (aT t q) := by
  refine ⟨hn.1, hn.2, fun i hi => ?_, fun i hi => ⟨i6_0 hi, i6_0 hi⟩, hp.1, hp.2, hy.1, hy.2⟩
  have e1 : (aT t q).2.1 i = Int32.toInt (q.1 (t + 1) i) := i6_l hi
  have e2 : (aT t q).2.2.1 i = Int32.toInt (q.1 (t + 2) i) := i6_l hi
  rw [e1, e2]
  exact ⟨(hr i).1, (hr i).2, (hh i).1, (hh i).2⟩
theorem tc_a2 {q : dK} (hT : TC q) : aOk (aT 2 q) := aT_ok (rg_2_2 hT) (fun i => rg_3 hT i) (fun i => rg_4 hT i) (rg_2_3 hT) (rg_2_4 hT)
theorem tc_a50 {q : dK} (hT : TC q) : aOk (aT 50 q) := aT_ok (rg_50_2 hT) (fun i => rg_51 hT i) (fun i => rg_52 hT i) (rg_50_3 hT) (rg_50_4 hT)
theorem tc_a57 {q : dK} (hT : TC q) : aOk (aT 57 q) := aT_ok (rg_57_2 hT) (fun i => rg_58 hT i) (fun i => rg_59 hT i) (rg_57_3 hT) (rg_57_4 hT)
