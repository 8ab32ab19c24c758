/-! the grammar of texts, over codes C and values V of tokens -/
def gEnd (op : Nat → Prop) (X : Nat → Nat → Prop) : Nat → Nat → Nat → Prop
  | 0, i, j => X i j ∧ ¬ op j
  | n + 1, i, j => ∃ m : Nat, X i m ∧ op m ∧ gEnd op X n (m + 1) j
def gSeq (op : Nat → Prop) (X : Nat → Nat → Prop) (i j : Nat) : Prop := ∃ n : Nat, gEnd op X n i j
def gLeafL (C : Nat → Int) (i j : Nat) : Prop := (C i = 50 ∨ (8 ≤ C i ∧ C i ≤ 16)) ∧ j = i + 1
def gLeafO (C V : Nat → Int) (i j : Nat) : Prop := ((C i = 50 ∨ (16 ≤ C i ∧ C i ≤ 20)) ∧ j = i + 1) ∨ ((C i = 15 ∨ C i = 21) ∧ C (i + 1) = 50 ∧ 0 ≤ V (i + 1) ∧ V (i + 1) ≤ 5 ∧ j = i + 2)
def gLeaf (o : Bool) (C V : Nat → Int) (i j : Nat) : Prop := match o with
  | false => gLeafL C i j
  | true => gLeafO C V i j
def gMul (C : Nat → Int) (i : Nat) : Prop := C i = 142 ∨ C i = 147 ∨ C i = 137
def gAdd (C : Nat → Int) (i : Nat) : Prop := C i = 143 ∨ C i = 145
def gPart (o : Bool) (C V : Nat → Int) : Nat → Nat → Nat → Prop
  | 0 => fun i j => gLeaf o C V i j
  | d + 1 => fun i j => gLeaf o C V i j ∨ (C i = 191 ∧ ∃ m : Nat, gSeq (gAdd C) (gSeq (gMul C) (gPart o C V d)) (i + 1) m ∧ C m = 193 ∧ j = m + 1)
def gSum (o : Bool) (C V : Nat → Int) (d : Nat) : Nat → Nat → Prop := gSeq (gAdd C) (gSeq (gMul C) (gPart o C V d))
def gNots (C : Nat → Int) (i m : Nat) : Prop := (∀ a : Nat, i ≤ a → a < m → C a = 7) ∧ i ≤ m ∧ ¬ C m = 7
def gCmp (o : Bool) (C V : Nat → Int) (d m j : Nat) : Prop := ¬ C m = 140 ∧ ∃ n : Nat, gSum o C V d m n ∧ (C n = 160 ∨ C n = 162 ∨ C n = 161) ∧ gSum o C V d (n + 1) j
def gPlain (o : Bool) (C V : Nat → Int) : Nat → Nat → Nat → Prop
  | 0 => fun i j => ∃ m : Nat, gNots C i m ∧ gCmp o C V 0 m j
  | d + 1 => fun i j => ∃ m : Nat, gNots C i m ∧ (gCmp o C V (d + 1) m j ∨ (C m = 140 ∧ ∃ n : Nat, gSeq (fun a => C a = 5) (gSeq (fun a => C a = 6) (gPlain o C V d)) (m + 1) n ∧ C n = 141 ∧ j = n + 1))
def gTest (o : Bool) (C V : Nat → Int) (d : Nat) : Nat → Nat → Prop := gSeq (fun a => C a = 5) (gSeq (fun a => C a = 6) (gPlain o C V d))
def gIf (o : Bool) (C V : Nat → Int) (m j : Nat) : Prop := (C m = 4 ∧ gTest o C V 8 (m + 1) j) ∨ (¬ C m = 4 ∧ j = m)
def gClause (C V : Nat → Int) (i j : Nat) : Prop := (C i = 1 ∧ ∃ m : Nat, gSum false C V 8 (i + 1) m ∧ gIf false C V m j) ∨ ((C i = 2 ∨ C i = 3) ∧ gIf false C V (i + 1) j)
def lawC (f : Nat → Int32) (e i : Nat) : Int := if i < e then (f (40 + i)).toInt else 0
def lawV (f : Nat → Int32) (i : Nat) : Int := (f (2840 + i)).toInt
def lawE (f : Nat → Int32) (t : Nat) : Nat := 400 * t + (f (33 + t)).toInt.toNat
def LawOk (f : Nat → Int32) (t : Nat) : Prop := gSeq (fun i => lawC f (lawE f t) i = 159) (gClause (lawC f (lawE f t)) (lawV f)) (400 * t) (lawE f t)
/-! what the reference's numbers are, by their places -/
def klo (i : Nat) : Int := if i < 32 then 0 else if i = 32 then -1 else if i < 40 then 0 else -2147483648
def khi (i : Nat) : Int := if i < 6 then 5 else if i < 12 then 1 else if i = 12 then 9999 else if i = 13 then 999 else if i < 26 then 5 else if i = 26 then 10 else if i = 27 then 9 else if i = 28 then 1 else if i < 32 then 6 else if i = 32 then 5 else if i < 40 then 400 else 2147483647
def f0lo (i : Nat) : Int := if i = 13 ∨ i = 32 ∨ i = 55 ∨ i = 10 ∨ i = 24 ∨ i = 25 ∨ i = 50 ∨ i = 51 ∨ i = 37 ∨ i = 38 then 0 else if i = 54 then -1 else -2147483648
def f0hi (i : Nat) : Int := if i = 13 then 400 else if i = 32 then 16 else if i = 55 then 1000002 else if i = 10 ∨ i = 24 ∨ i = 25 ∨ i = 50 ∨ i = 51 then 1 else if i = 37 then 720 else if i = 38 then 64 else if i = 54 then 6 else 2147483647
def tlo (j i : Nat) : Int := match j with
  | 0 => f0lo i
  | 2 => klo i
  | 3 => klo (i % 5640)
  | 5 => klo (i % 14)
  | 11 => 0
  | 14 => if i % 15 < 14 then klo (i % 15) else -2147483648
  | 15 => if i % 15 < 14 then klo (i % 15) else -2147483648
  | 16 => 0
  | 17 => 0
  | 18 => 0
  | 20 => -1
  | 21 => 0
  | 23 => 0
  | 27 => klo (i % 14)
  | _ => -2147483648
def thi (j i : Nat) : Int := match j with
  | 0 => f0hi i
  | 2 => khi i
  | 3 => khi (i % 5640)
  | 5 => khi (i % 14)
  | 11 => 400
  | 14 => if i % 15 < 14 then khi (i % 15) else 2147483647
  | 15 => if i % 15 < 14 then khi (i % 15) else 2147483647
  | 16 => 5
  | 17 => 719
  | 18 => 63
  | 20 => 99
  | 21 => 1000000
  | 23 => 46079
  | 27 => khi (i % 14)
  | _ => 2147483647
def TE (q : dS) : Prop := ∀ j i : Nat, tlo j i ≤ (q.1 j i).toInt ∧ (q.1 j i).toInt ≤ thi j i
def KR (f : Nat → Int32) : Prop := (f 32).toInt < (f 31).toInt ∧ ∀ t : Nat, t < 6 → (t : Int) < (f 31).toInt → LawOk f t
def wB (i : Nat) : Int32 := ([112, 97, 121, 115, 32, 98, 97, 114, 115, 32, 116, 105, 112, 115, 32, 105, 102, 32, 111, 114, 32, 97, 110, 100, 32, 110, 111, 116, 32, 103, 114, 105, 112, 32, 116, 111, 112, 32, 110, 101, 120, 116, 32, 102, 108, 111, 111, 114, 115, 32, 114, 97, 110, 107, 32, 112, 108, 97, 99, 101, 32, 109, 111, 111, 100, 32, 104, 101, 97, 100, 32, 121, 101, 97, 114, 32, 100, 111, 110, 101, 32, 108, 97, 116, 101, 115, 116, 32, 112, 97, 105, 100, 32, 103, 97, 112, 115, 32, 97, 116, 32, 116, 117, 114, 110, 32, 114, 105, 103, 104, 116, 32, 115, 119, 97, 112, 32, 112, 97, 115, 115, 32, 116, 105, 109, 101, 115, 32] : List Int32).getD i 0
def TS (q : dS) : Prop := TE q ∧ KR (q.1 2) ∧ (∀ k : Nat, k < 2 → ¬ q.1 4 k = 0 → KR (fun i => q.1 3 (5640 * k + i))) ∧ ∀ i : Nat, i < 128 → q.1 6 i = wB i
theorem KR.congr {f g : Nat → Int32} (h : ∀ i : Nat, 31 ≤ i → f i = g i) (hf : KR f) : KR g := by
  have e31 := h 31 (by omega)
  have e32 := h 32 (by omega)
  refine ⟨by rw [← e31, ← e32]; exact hf.1, fun t ht h1 => ?_⟩
  have h2 := hf.2 t ht (by rw [e31]; exact h1)
  have eE : lawE f t = lawE g t := by unfold lawE; rw [h (33 + t) (by omega)]
  have eC : lawC f (lawE f t) = lawC g (lawE g t) := by
    rw [eE]; funext i; unfold lawC; rw [h (40 + i) (by omega)]
  have eV : lawV f = lawV g := by funext i; unfold lawV; rw [h (2840 + i) (by omega)]
  unfold LawOk at *
  rw [← eE, ← eV]
  rw [eE] at eC
  rw [eE] at h2
  rw [eE, ← eC]
  exact h2
theorem te_set {q : dS} {j i : Nat} {v : Int32} (h : TE q) (h1 : tlo j i ≤ v.toInt) (h2 : v.toInt ≤ thi j i) : TE (dui q j i v) := by
  intro a b
  by_cases c : a = j
  · subst c
    by_cases c2 : b = i
    · subst c2; rw [dui_e]; exact ⟨h1, h2⟩
    · rw [dui_n c2]; exact h a b
  · rw [dui_o c]; exact h a b
theorem ts_set {q : dS} {j i : Nat} {v : Int32} (h : TS q) (hj : ¬ j = 2 ∧ ¬ j = 3 ∧ ¬ j = 4 ∧ ¬ j = 6) (h1 : tlo j i ≤ v.toInt) (h2 : v.toInt ≤ thi j i) : TS (dui q j i v) := by
  refine ⟨te_set h.1 h1 h2, ?_, ?_, ?_⟩
  · rw [dui_o (fun z => hj.1 z.symm)]; exact h.2.1
  · rw [dui_o (fun z => hj.2.1 z.symm), dui_o (fun z => hj.2.2.1 z.symm)]; exact h.2.2.1
  · rw [dui_o (fun z => hj.2.2.2 z.symm)]; exact h.2.2.2
theorem ts_set2 {q : dS} {i : Nat} {v : Int32} (h : TS q) (hi : i < 31) (h1 : klo i ≤ v.toInt) (h2 : v.toInt ≤ khi i) : TS (dui q 2 i v) := by
  refine ⟨te_set h.1 h1 h2, ?_, ?_, ?_⟩
  · rw [dui_s]
    refine KR.congr (fun a ha => ?_) h.2.1
    exact (if_neg (by omega)).symm
  · rw [dui_o (by decide), dui_o (by decide)]; exact h.2.2.1
  · rw [dui_o (by decide)]; exact h.2.2.2
theorem ts_any {q : dS} {j i : Nat} {v : Int32} (h : TS q) (hj : (j == 1 || j == 7 || j == 8 || j == 9 || j == 10 || j == 12 || j == 13 || j == 19 || j == 22 || j == 24 || j == 25) = true) : TS (dui q j i v) := by
  have hv := ti_rg v
  simp only [Bool.or_eq_true, beq_iff_eq] at hj
  rcases hj with ((((((((((hj | hj) | hj) | hj) | hj) | hj) | hj) | hj) | hj) | hj) | hj) <;> subst hj <;> exact ts_set h (by decide) hv.1 hv.2
theorem ts_f {q : dS} {k : Nat} {v : Int32} (h : TS q) (hl : f0lo k ≤ v.toInt) (hh : v.toInt ≤ f0hi k) : TS (dui q 0 k v) := ts_set h (by decide) hl hh
theorem ts_l {q : dS} {j k : Nat} {v : Int64} (h : TS q) : TS (dul q j k v) := h
theorem te_k {q : dS} (h : TS q) (i : Nat) : klo i ≤ (q.1 2 i).toInt ∧ (q.1 2 i).toInt ≤ khi i := h.1 2 i
theorem te_2r {q : dS} (h : TS q) {i : Nat} (h1 : 0 ≤ i) (h2 : i < 6) : 0 ≤ (q.1 2 i).toInt ∧ (q.1 2 i).toInt ≤ 5 := by
  have z := te_k h i
  unfold klo khi at z
  omega
theorem te_2h {q : dS} (h : TS q) {i : Nat} (h1 : 6 ≤ i) (h2 : i < 12) : 0 ≤ (q.1 2 i).toInt ∧ (q.1 2 i).toInt ≤ 1 := by
  have z := te_k h i
  unfold klo khi at z
  omega
theorem te_2s {q : dS} (h : TS q) {i : Nat} (h1 : 14 ≤ i) (h2 : i < 26) : 0 ≤ (q.1 2 i).toInt ∧ (q.1 2 i).toInt ≤ 5 := by
  have z := te_k h i
  unfold klo khi at z
  omega
theorem te_2z {q : dS} (h : TS q) {i : Nat} (h1 : 33 ≤ i) (h2 : i < 40) : 0 ≤ (q.1 2 i).toInt ∧ (q.1 2 i).toInt ≤ 400 := by
  have z := te_k h i
  unfold klo khi at z
  omega
theorem te_5 {q : dS} (h : TS q) (i : Nat) : klo (i % 14) ≤ (q.1 5 i).toInt ∧ (q.1 5 i).toInt ≤ khi (i % 14) := h.1 5 i
theorem te_27 {q : dS} (h : TS q) (i : Nat) : klo (i % 14) ≤ (q.1 27 i).toInt ∧ (q.1 27 i).toInt ≤ khi (i % 14) := h.1 27 i
theorem te_14 {q : dS} (h : TS q) {i : Nat} (h1 : i % 15 < 14) : klo (i % 15) ≤ (q.1 14 i).toInt ∧ (q.1 14 i).toInt ≤ khi (i % 15) := by
  have z := h.1 14 i
  simp only [tlo, thi, if_pos h1] at z
  exact z
theorem te_15 {q : dS} (h : TS q) {i : Nat} (h1 : i % 15 < 14) : klo (i % 15) ≤ (q.1 15 i).toInt ∧ (q.1 15 i).toInt ≤ khi (i % 15) := by
  have z := h.1 15 i
  simp only [tlo, thi, if_pos h1] at z
  exact z
theorem ts_5 {q : dS} {i s : Nat} {v : Int32} (h : TS q) (hs : i % 14 = s) (h1 : klo s ≤ v.toInt ∧ v.toInt ≤ khi s) : TS (dui q 5 i v) := by
  subst hs
  exact ts_set h (by decide) h1.1 h1.2
theorem ts_27 {q : dS} {i s : Nat} {v : Int32} (h : TS q) (hs : i % 14 = s) (h1 : klo s ≤ v.toInt ∧ v.toInt ≤ khi s) : TS (dui q 27 i v) := by
  subst hs
  exact ts_set h (by decide) h1.1 h1.2
theorem ts_14 {q : dS} {i s : Nat} {v : Int32} (h : TS q) (hs : i % 15 = s) (h0 : s < 14) (h1 : klo s ≤ v.toInt ∧ v.toInt ≤ khi s) : TS (dui q 14 i v) := by
  subst hs
  exact ts_set h (by decide) (by simp only [tlo, if_pos h0]; exact h1.1) (by simp only [thi, if_pos h0]; exact h1.2)
theorem ts_14x {q : dS} {i : Nat} {v : Int32} (h : TS q) (h0 : ¬ i % 15 < 14) : TS (dui q 14 i v) :=
  ts_set h (by decide) (by simp only [tlo, if_neg h0]; exact (ti_rg v).1) (by simp only [thi, if_neg h0]; exact (ti_rg v).2)
theorem ts_15 {q : dS} {i s : Nat} {v : Int32} (h : TS q) (hs : i % 15 = s) (h0 : s < 14) (h1 : klo s ≤ v.toInt ∧ v.toInt ≤ khi s) : TS (dui q 15 i v) := by
  subst hs
  exact ts_set h (by decide) (by simp only [tlo, if_pos h0]; exact h1.1) (by simp only [thi, if_pos h0]; exact h1.2)
theorem ts_15x {q : dS} {i : Nat} {v : Int32} (h : TS q) (h0 : ¬ i % 15 < 14) : TS (dui q 15 i v) :=
  ts_set h (by decide) (by simp only [tlo, if_neg h0]; exact (ti_rg v).1) (by simp only [thi, if_neg h0]; exact (ti_rg v).2)
theorem ts_2c {q : dS} {i s : Nat} {v : Int32} (h : TS q) (hi : i < 31) (hs : i = s) (h1 : klo s ≤ v.toInt ∧ v.toInt ≤ khi s) : TS (dui q 2 i v) := by
  subst hs
  exact ts_set2 h hi h1.1 h1.2
theorem ts_force {q : dS} {v : Int32} (h : TS q) (h1 : -1 ≤ v.toInt) (h2 : v.toInt < (q.1 2 31).toInt) : TS (dui q 2 32 v) := by
  have h3 := te_k h 31
  have e1 : khi 31 = 6 := by decide
  refine ⟨te_set h.1 (by show klo 32 ≤ _; unfold klo; omega) (by show _ ≤ khi 32; unfold khi; omega), ?_, ?_, ?_⟩
  · rw [dui_s]
    refine ⟨?_, fun t ht h4 => ?_⟩
    · show (if 32 = 32 then v else q.1 2 32).toInt < (if 31 = 32 then v else q.1 2 31).toInt
      rw [if_pos rfl, if_neg (by decide)]; exact h2
    · have h5 := h.2.1.2 t ht h4
      have eE : lawE (upd (q.1 2) 32 v) t = lawE (q.1 2) t := by
        unfold lawE
        rw [show upd (q.1 2) 32 v (33 + t) = q.1 2 (33 + t) from if_neg (by omega)]
      have eC : lawC (upd (q.1 2) 32 v) (lawE (q.1 2) t) = lawC (q.1 2) (lawE (q.1 2) t) := by
        funext i; unfold lawC
        rw [show upd (q.1 2) 32 v (40 + i) = q.1 2 (40 + i) from if_neg (by omega)]
      have eV : lawV (upd (q.1 2) 32 v) = lawV (q.1 2) := by
        funext i; unfold lawV
        rw [show upd (q.1 2) 32 v (2840 + i) = q.1 2 (2840 + i) from if_neg (by omega)]
      unfold LawOk
      rw [eE, eC, eV]
      exact h5
  · rw [dui_o (by decide), dui_o (by decide)]; exact h.2.2.1
  · rw [dui_o (by decide)]; exact h.2.2.2
theorem fac_step {x1 x2 : Int32} (h : (x2.toInt = 2 ∧ x1.toInt = 1) ∨ (x2.toInt = 3 ∧ x1.toInt = 2) ∨ (x2.toInt = 4 ∧ x1.toInt = 6) ∨ (x2.toInt = 5 ∧ x1.toInt = 24) ∨ (x2.toInt = 6 ∧ x1.toInt = 120) ∨ (x2.toInt = 7 ∧ x1.toInt = 720)) :
    (x2.toInt = 2 ∧ (x1 * x2).toInt = 2) ∨ (x2.toInt = 3 ∧ (x1 * x2).toInt = 6) ∨ (x2.toInt = 4 ∧ (x1 * x2).toInt = 24) ∨ (x2.toInt = 5 ∧ (x1 * x2).toInt = 120) ∨ (x2.toInt = 6 ∧ (x1 * x2).toInt = 720) ∨ x2.toInt = 7 := by
  rcases h with ⟨h1, h2⟩ | ⟨h1, h2⟩ | ⟨h1, h2⟩ | ⟨h1, h2⟩ | ⟨h1, h2⟩ | ⟨h1, h2⟩
  · have := ti_mul h2 h1 (by decide) (by decide); omega
  · have := ti_mul h2 h1 (by decide) (by decide); omega
  · have := ti_mul h2 h1 (by decide) (by decide); omega
  · have := ti_mul h2 h1 (by decide) (by decide); omega
  · have := ti_mul h2 h1 (by decide) (by decide); omega
  · omega
/-! numbers of orders -/
def nbf (n : Nat) : Nat → Nat
  | 0 => 1
  | a + 1 => nbf n a * (n - a)
theorem nbf_le : ∀ n : Nat, n ≤ 6 → ∀ a : Nat, a ≤ n → nbf n a ≤ 720 ∧ nbf n n ≤ 720 := by decide +kernel
theorem nbf_fac : ∀ n : Nat, n ≤ 6 → (n ≤ 1 ∧ nbf n n = 1) ∨ (n = 2 ∧ nbf n n = 2) ∨ (n = 3 ∧ nbf n n = 6) ∨ (n = 4 ∧ nbf n n = 24) ∨ (n = 5 ∧ nbf n n = 120) ∨ (n = 6 ∧ nbf n n = 720) := by decide +kernel
def NB (n a v : Int) : Prop := 0 ≤ v ∧ 0 ≤ a ∧ a ≤ n ∧ n ≤ 6 ∧ v < (nbf n.toNat a.toNat : Nat)
theorem NB_0 {n : Int} (h0 : 0 ≤ n) (h : n ≤ 6) : NB n 0 0 := ⟨by decide, by decide, h0, h, by show (0 : Int) < ((1 : Nat) : Int); decide⟩
theorem NB_r {n a v : Int} (h : NB n a v) : 0 ≤ v ∧ v ≤ 719 ∧ a ≤ n ∧ 0 ≤ a := by
  obtain ⟨h1, h2, h3, h4, h5⟩ := h
  have := (nbf_le n.toNat (by omega) a.toNat (by omega)).1
  omega
theorem NB_m {n a v : Int} (h : NB n a v) (w : Int) (hw : 0 ≤ w) (hw2 : w ≤ 6) : 0 ≤ v * w ∧ v * w ≤ 4314 := by
  have h1 := NB_r h
  constructor
  · exact Int.mul_nonneg h1.1 hw
  · have : v * w ≤ 719 * 6 := Int.mul_le_mul h1.2.1 hw2 hw (by decide)
    omega
theorem NB_s {n a v l w u : Int} (h : NB n a v) (ha : a < n) (h0 : 0 ≤ l) (hl : l ≤ n - 1 - a) (hw : w = n - a) (hu : u = v * w + l) : NB n (a + 1) u := by
  obtain ⟨h1, h2, h3, h4, h5⟩ := h
  subst hw hu
  have h6 : (a + 1).toNat = a.toNat + 1 := by omega
  have h7 : 0 ≤ v * (n - a) := Int.mul_nonneg h1 (by omega)
  refine ⟨by omega, by omega, by omega, h4, ?_⟩
  rw [h6]
  show v * (n - a) + l < ((nbf n.toNat a.toNat * (n.toNat - a.toNat) : Nat) : Int)
  have h8 : ((nbf n.toNat a.toNat * (n.toNat - a.toNat) : Nat) : Int) = (nbf n.toNat a.toNat : Int) * (n - a) := by
    rw [Int.natCast_mul]
    congr 1
    omega
  rw [h8]
  have h9 : (v + 1) * (n - a) ≤ (nbf n.toNat a.toNat : Int) * (n - a) := Int.mul_le_mul_of_nonneg_right (by omega) (by omega)
  rw [Int.add_mul] at h9
  omega
theorem NB_s2 {n a v : Int} (l w : Int) {u b : Int} (h : NB n a v) (ha : a < n) (h0 : 0 ≤ l) (hl : l ≤ n - 1 - a) (hw : w = n - a) (hb : b = a + 1) (hu : u = v * w + l) : NB n b u := by
  subst hb
  exact NB_s h ha h0 hl hw hu
theorem NB_e {n a v : Int} (h : NB n a v) (h2 : n ≤ a) : NB n n v := by
  have h3 := NB_r h
  have e : a = n := by omega
  rw [e] at h
  exact h
theorem ts_cp {q q' : dS} {i s : Nat} {v : Int32} (j j0 : Nat) (hj : j = 14 ∨ j = 15) (hj0 : j0 = 14 ∨ j0 = 15) (h : TS q) (h0 : TS q') (hs : i % 15 = s % 15) (hv : v = q'.1 j0 s) : TS (dui q j i v) := by
  by_cases c : i % 15 < 14
  · have c2 : s % 15 < 14 := by omega
    have h1 : klo (s % 15) ≤ v.toInt ∧ v.toInt ≤ khi (s % 15) := by
      rw [hv]
      rcases hj0 with e | e <;> subst e
      · exact te_14 h0 c2
      · exact te_15 h0 c2
    rcases hj with e | e <;> subst e
    · exact ts_14 h hs c2 h1
    · exact ts_15 h hs c2 h1
  · rcases hj with e | e <;> subst e
    · exact ts_14x h c
    · exact ts_15x h c
