/-! the class's pure phase: stores, what stays, ranges -/
theorem cui_o {q : dK} {j k j' : Nat} {v : Int32} (h : ¬ j' = j) : (cui q j k v).1 j' = q.1 j' := if_neg h
theorem cui_s {q : dK} {j k : Nat} {v : Int32} : (cui q j k v).1 j = upd (q.1 j) k v := if_pos rfl
theorem cui_n {q : dK} {j k i : Nat} {v : Int32} (h : ¬ i = k) : (cui q j k v).1 j i = q.1 j i := by rw [cui_s]; exact if_neg h
theorem cui_e {q : dK} {j k : Nat} {v : Int32} : (cui q j k v).1 j k = v := by rw [cui_s]; exact if_pos rfl
theorem cui_x {q : dK} {j k j' i : Nat} {v : Int32} (h : ¬ (j' = j ∧ i = k)) : (cui q j k v).1 j' i = q.1 j' i := by
  by_cases c : j' = j
  · subst c; exact cui_n (fun z => h ⟨rfl, z⟩)
  · rw [cui_o c]
theorem cul_1 {q : dK} {j k : Nat} {v : Int64} : (cul q j k v).1 = q.1 := rfl
/-- what stays: rows outside of S, places outside of F, the laws -/
def cFr (S : List Nat) (F : List (Nat × Nat)) (q q' : dK) : Prop := (∀ j k : Nat, j ∉ S → (j, k) ∉ F → q'.1 j k = q.1 j k) ∧ q'.2.2 = q.2.2
theorem cFr.rf {S : List Nat} {F : List (Nat × Nat)} {q : dK} : cFr S F q q := ⟨fun _ _ _ _ => rfl, rfl⟩
theorem cFr.i {S : List Nat} {F : List (Nat × Nat)} {q q' : dK} (h : cFr S F q q') {j k : Nat} {v : Int32} (hj : j ∈ S) : cFr S F q (cui q' j k v) := by
  refine ⟨fun a b ha hb => ?_, h.2⟩
  rw [cui_o (fun z => ha (by rw [z]; exact hj))]; exact h.1 a b ha hb
theorem cFr.f {S : List Nat} {F : List (Nat × Nat)} {q q' : dK} (h : cFr S F q q') {j k : Nat} {v : Int32} (hk : (j, k) ∈ F) : cFr S F q (cui q' j k v) := by
  refine ⟨fun a b ha hb => ?_, h.2⟩
  rw [cui_x (fun z => hb (by rw [z.1, z.2]; exact hk))]; exact h.1 a b ha hb
theorem cFr.l {S : List Nat} {F : List (Nat × Nat)} {q q' : dK} (h : cFr S F q q') {j k : Nat} {v : Int64} : cFr S F q (cul q' j k v) := h
theorem cFr.g {S : List Nat} {F : List (Nat × Nat)} {q q' : dK} (h : cFr S F q q') {j n : Nat} {v : Int32} (hj : j ∈ S) : cFr S F q (cfi q' j n v) := by
  refine ⟨fun a b ha hb => ?_, h.2⟩
  have e : (cfi q' j n v).1 a = q'.1 a := if_neg (fun z => ha (by rw [z]; exact hj))
  rw [e]; exact h.1 a b ha hb
theorem cFr.c {S : List Nat} {F : List (Nat × Nat)} {q q' : dK} (h : cFr S F q q') {j0 j s d n : Nat} (hj : j ∈ S) : cFr S F q (cci q' j0 j s d n) := by
  refine ⟨fun a b ha hb => ?_, h.2⟩
  have e : (cci q' j0 j s d n).1 a = q'.1 a := if_neg (fun z => ha (by rw [z]; exact hj))
  rw [e]; exact h.1 a b ha hb
theorem cFr.t {S S2 : List Nat} {F F2 : List (Nat × Nat)} {q q' q2 : dK} (h : cFr S F q q') (h2 : cFr S2 F2 q' q2) (hS : ∀ a ∈ S2, a ∈ S) (hF : ∀ a ∈ F2, a ∈ F ∨ a.1 ∈ S) : cFr S F q q2 := by
  refine ⟨fun a b ha hb => ?_, h2.2.trans h.2⟩
  rw [h2.1 a b (fun z => ha (hS a z)) (fun z => ?_)]
  · exact h.1 a b ha hb
  · rcases hF _ z with z2 | z2
    · exact hb z2
    · exact ha z2
/-! ranges by place -/
def twl (k : Nat) : Int := if k = 2 ∨ k = 3 ∨ k = 4 then 0 else -2147483648
def twh (k : Nat) : Int := if k = 2 then 6 else if k = 3 then 16383 else if k = 4 then 1023 else 2147483647
def stl (k : Nat) : Int := if k = 1 ∨ k = 6 ∨ k = 8 then 0 else -2147483648
def sth (k : Nat) : Int := if k = 1 then 10 else if k = 6 ∨ k = 8 then 6 else 2147483647
def clo (j k : Nat) : Int := if j = 0 then (if k = 12 then 0 else -2147483648) else if j = 1 then (stl k) else if j = 2 then (twl k) else if j = 3 then (0) else if j = 4 then (0) else if j = 7 then (0) else if j = 10 then (if k = 2 ∨ k = 5 then 0 else -2147483648) else if j = 15 then (twl k) else if j = 16 then (0) else if j = 17 then (0) else if j = 18 then (if k = 1 then 0 else -2147483648) else if j = 20 then (if k = 2 then 0 else -2147483648) else if j = 24 then (if k = 0 ∨ k = 1 ∨ k = 2 ∨ k = 3 ∨ k = 5 ∨ k = 6 ∨ k = 7 ∨ k = 8 ∨ k = 9 then 0 else -2147483648) else if j = 25 then (if k = 6 ∨ k = 7 then 0 else -2147483648) else if j = 28 then (0) else if j = 29 then (0) else if j = 30 then (0) else if j = 31 then (0) else if j = 32 then (if k = 13 ∨ k = 14 ∨ k = 15 ∨ (100 ≤ k ∧ k < 107) then 0 else -2147483648) else if j = 36 then (0) else if j = 40 then (0) else if j = 41 then (0) else if j = 49 then (stl k) else if j = 50 then (twl k) else if j = 51 then (0) else if j = 52 then (0) else if j = 55 then (0) else if j = 56 then (stl k) else if j = 57 then (twl k) else if j = 58 then (0) else if j = 59 then (0) else if j = 62 then (0) else -2147483648
def chi (j k : Nat) : Int := if j = 0 then (if k = 12 then 400 else 2147483647) else if j = 1 then (sth k) else if j = 2 then (twh k) else if j = 3 then (7) else if j = 4 then (1) else if j = 10 then (if k = 2 ∨ k = 5 then 16 else 2147483647) else if j = 15 then (twh k) else if j = 16 then (7) else if j = 17 then (1) else if j = 18 then (if k = 1 then 1 else 2147483647) else if j = 24 then (if k = 0 ∨ k = 2 ∨ k = 3 then 1 else if k = 1 ∨ k = 5 ∨ k = 6 then 400 else if k = 7 then 1001 else if k = 8 then 50 else if k = 9 then 8 else 2147483647) else if j = 25 then (if k = 6 then 12 else if k = 7 then 400 else 2147483647) else if j = 28 then (400) else if j = 29 then (400) else if j = 30 then (400) else if j = 32 then (if k = 13 then 6 else if k = 14 then 46080 else if k = 15 then 46079 else if 100 ≤ k ∧ k < 107 then 46080 else 2147483647) else if j = 36 then (99) else if j = 40 then (719) else if j = 41 then (63) else if j = 49 then (sth k) else if j = 50 then (twh k) else if j = 51 then (7) else if j = 52 then (1) else if j = 56 then (sth k) else if j = 57 then (twh k) else if j = 58 then (7) else if j = 59 then (1) else 2147483647
/-- a sign of a law's text: what it does -/
def cOp (x : Int32) : Prop := (x &&& 15).toInt ≤ 12
/-- an order's digits: the first of them -/
def cD (x : Int32) : Prop := (x &&& 7).toInt ≤ 5
/-- a law's text -/
def LT (t : dT) : Prop := 0 ≤ t.1.toInt ∧ t.1.toInt ≤ 12 ∧ 0 ≤ t.2.1.toInt ∧ t.2.1.toInt ≤ 400 ∧ t.2.2.1 = t.1 ∧ t.2.2.2.1 = t.2.1 ∧ ∀ j i : Nat, 2 ≤ j → 0 ≤ (t.2.2.2.2 j i).toInt ∧ (j = 5 → cOp (t.2.2.2.2 j i))
def CE (q : dK) : Prop := ∀ j k : Nat, clo j k ≤ (q.1 j k).toInt ∧ (q.1 j k).toInt ≤ chi j k
/-- the codes of laws -/
def CC (q : dK) : Prop := (q.1 20 2).toInt ≤ (q.2.2.length : Int) ∧ ∀ i : Nat, (q.1 7 i).toInt ≤ (q.2.2.length : Int) ∧ (q.1 55 i).toInt ≤ (q.2.2.length : Int) ∧ (q.1 62 i).toInt ≤ (q.2.2.length : Int) ∧ cOp (q.1 31 i) ∧ cD (q.1 39 i)
/-- the lengths of the paper's rows -/
def PL (q : dK) : Prop := (q.1 32 103 = 0 ∧ q.1 32 104 = 0 ∧ q.1 32 105 = 0 ∧ q.1 32 106 = 0 ∧ q.1 32 100 = 0 ∧ q.1 32 101 = 0 ∧ q.1 32 102 = 0) ∨ ∃ f : Nat, f ≤ 6 ∧ (q.1 32 100).toInt = facI f ∧ (q.1 32 101).toInt = 6 * facI f ∧ (q.1 32 102).toInt = 6 * powI f ∧ (q.1 32 103).toInt = facI f * powI f ∧ (q.1 32 104).toInt = facI f * powI f ∧ (q.1 32 105).toInt = facI f * powI f ∧ (q.1 32 106).toInt = facI f * powI f
def CL (q : dK) : Prop := ∀ k : Nat, 0 ≤ (q.2.1 11 k).toInt ∧ 0 ≤ (q.2.1 13 k).toInt
def TC (q : dK) : Prop := CE q ∧ CC q ∧ PL q ∧ CL q ∧ ∀ t ∈ q.2.2, LT t
theorem ce_set {q : dK} {j k : Nat} {v : Int32} (h : CE q) (h1 : clo j k ≤ v.toInt) (h2 : v.toInt ≤ chi j k) : CE (cui q j k v) := by
  intro a b
  by_cases c : a = j ∧ b = k
  · obtain ⟨rfl, rfl⟩ := c
    rw [cui_e]; exact ⟨h1, h2⟩
  · rw [cui_x c]; exact h a b
theorem tc_set {q : dK} {j k : Nat} {v : Int32} (h : TC q) (hj : (j != 7 && j != 55 && j != 62 && j != 31 && j != 39 && (j != 20 || k != 2) && (j != 32 || decide (k < 100))) = true) (h1 : clo j k ≤ v.toInt) (h2 : v.toInt ≤ chi j k) : TC (cui q j k v) := by
  simp only [Bool.and_eq_true, Bool.or_eq_true, bne_iff_ne, ne_eq, decide_eq_true_eq] at hj
  obtain ⟨⟨⟨⟨⟨⟨j1, j2⟩, j3⟩, j6⟩, j7⟩, j4⟩, j5⟩ := hj
  obtain ⟨hE, hC, hP, hL, hT⟩ := h
  refine ⟨ce_set hE h1 h2, ?_, ?_, hL, hT⟩
  · refine ⟨?_, fun i => ?_⟩
    · rw [cui_x (by omega)]; exact hC.1
    · rw [cui_o (fun z => j1 z.symm), cui_o (fun z => j2 z.symm), cui_o (fun z => j3 z.symm), cui_o (fun z => j6 z.symm), cui_o (fun z => j7 z.symm)]; exact hC.2 i
  · unfold PL
    rw [cui_x (by omega), cui_x (by omega), cui_x (by omega), cui_x (by omega), cui_x (by omega), cui_x (by omega), cui_x (by omega)]
    exact hP
theorem tc_l {q : dK} {j k : Nat} {v : Int64} (h : TC q) (hv : j = 11 ∨ j = 13 → 0 ≤ v.toInt) : TC (cul q j k v) := by
  obtain ⟨hE, hC, hP, hL, hT⟩ := h
  refine ⟨hE, hC, hP, fun i => ?_, hT⟩
  have g : ∀ a : Nat, (a = 11 ∨ a = 13) → 0 ≤ (q.2.1 a i).toInt := by
    intro a ha
    rcases ha with e | e
    · rw [e]; exact (hL i).1
    · rw [e]; exact (hL i).2
  have e : ∀ a : Nat, (a = 11 ∨ a = 13) → 0 ≤ ((cul q j k v).2.1 a i).toInt := by
    intro a ha
    show 0 ≤ ((if a = j then vp_updL (q.2.1 j) k v else q.2.1 a) i).toInt
    by_cases c : a = j
    · rw [if_pos c]
      show 0 ≤ (if i = k then v else q.2.1 j i).toInt
      by_cases c2 : i = k
      · rw [if_pos c2]; exact hv (by rw [← c]; exact ha)
      · rw [if_neg c2, ← c]; exact g a ha
    · rw [if_neg c]; exact g a ha
  exact ⟨e 11 (Or.inl rfl), e 13 (Or.inr rfl)⟩
/-- a law's code -/
theorem tc_law {q : dK} {j k : Nat} {v : Int32} (h : TC q) (hj : j = 7 ∨ j = 55 ∨ j = 62 ∨ (j = 20 ∧ k = 2)) (h1 : 0 ≤ v.toInt) (h2 : v.toInt ≤ (q.2.2.length : Int)) : TC (cui q j k v) := by
  obtain ⟨hE, hC, hP, hL, hT⟩ := h
  have hr := ti_rg v
  refine ⟨ce_set hE ?_ ?_, ?_, ?_, hL, hT⟩
  · rcases hj with e | e | e | e
    · subst e; exact h1
    · subst e; exact h1
    · subst e; exact h1
    · obtain ⟨rfl, rfl⟩ := e; exact h1
  · rcases hj with e | e | e | e
    · subst e; exact hr.2
    · subst e; exact hr.2
    · subst e; exact hr.2
    · obtain ⟨rfl, rfl⟩ := e; exact hr.2
  · have g : ∀ a b : Nat, (q.1 a b).toInt ≤ (q.2.2.length : Int) → ((cui q j k v).1 a b).toInt ≤ (q.2.2.length : Int) := by
      intro a b hab
      by_cases c : a = j ∧ b = k
      · obtain ⟨rfl, rfl⟩ := c
        rw [cui_e]; exact h2
      · rw [cui_x c]; exact hab
    exact ⟨g 20 2 hC.1, fun i => ⟨g 7 i (hC.2 i).1, g 55 i (hC.2 i).2.1, g 62 i (hC.2 i).2.2.1, by rw [cui_o (by omega)]; exact (hC.2 i).2.2.2.1, by rw [cui_o (by omega)]; exact (hC.2 i).2.2.2.2⟩⟩
  · unfold PL
    rw [cui_x (by omega), cui_x (by omega), cui_x (by omega), cui_x (by omega), cui_x (by omega), cui_x (by omega), cui_x (by omega)]
    exact hP
theorem tc_31 {q : dK} {k : Nat} {v : Int32} (h : TC q) (h1 : 0 ≤ v.toInt) (h2 : cOp v) : TC (cui q 31 k v) := by
  obtain ⟨hE, hC, hP, hL, hT⟩ := h
  refine ⟨ce_set hE h1 (ti_rg v).2, ?_, ?_, hL, hT⟩
  · refine ⟨by rw [cui_o (by decide)]; exact hC.1, fun i => ?_⟩
    rw [cui_o (by decide), cui_o (by decide), cui_o (by decide), cui_o (j' := 39) (by decide)]
    refine ⟨(hC.2 i).1, (hC.2 i).2.1, (hC.2 i).2.2.1, ?_, (hC.2 i).2.2.2.2⟩
    by_cases c : i = k
    · subst c; rw [cui_e]; exact h2
    · rw [cui_n c]; exact (hC.2 i).2.2.2.1
  · unfold PL
    rw [cui_o (by decide)]
    exact hP
theorem tc_39 {q : dK} {k : Nat} {v : Int32} (h : TC q) (h2 : cD v) : TC (cui q 39 k v) := by
  obtain ⟨hE, hC, hP, hL, hT⟩ := h
  refine ⟨ce_set hE (ti_rg v).1 (ti_rg v).2, ?_, ?_, hL, hT⟩
  · refine ⟨by rw [cui_o (by decide)]; exact hC.1, fun i => ?_⟩
    rw [cui_o (by decide), cui_o (by decide), cui_o (by decide), cui_o (j' := 31) (by decide)]
    refine ⟨(hC.2 i).1, (hC.2 i).2.1, (hC.2 i).2.2.1, (hC.2 i).2.2.2.1, ?_⟩
    by_cases c : i = k
    · subst c; rw [cui_e]; exact h2
    · rw [cui_n c]; exact (hC.2 i).2.2.2.2
  · unfold PL
    rw [cui_o (by decide)]
    exact hP
theorem tc_dlg {q : dK} (h : TC q) {c : Int32} (h0 : ¬ c.toInt = 0) (h1 : 0 ≤ c.toInt) (h2 : c.toInt ≤ (q.2.2.length : Int)) : dlg q c = true := by
  apply decide_eq_true
  have e : Int32.toNatClampNeg c = c.toInt.toNat := rfl
  refine ⟨fun z => h0 (by rw [z]; rfl), ?_⟩
  unfold dLi
  omega
theorem tc_txt {q : dK} (h : TC q) {c : Int32} (hd : dlg q c = true) : LT (dTx q c) := h.2.2.2.2 _ (List.mem_of_getElem? (dTx_get hd))
theorem mn_le {a b : Int32} : (mnI a b).toInt ≤ a.toInt ∧ (mnI a b).toInt ≤ b.toInt ∧ ((mnI a b).toInt = a.toInt ∨ (mnI a b).toInt = b.toInt) := by
  unfold mnI
  by_cases c : b < a
  · rw [if_pos c]
    have := Int32.lt_iff_toInt_lt.mp c
    exact ⟨by omega, by omega, Or.inr rfl⟩
  · rw [if_neg c]
    have : ¬ b.toInt < a.toInt := fun z => c (Int32.lt_iff_toInt_lt.mpr z)
    exact ⟨by omega, by omega, Or.inl rfl⟩
theorem mx_le {a b : Int32} : a.toInt ≤ (mxI a b).toInt ∧ b.toInt ≤ (mxI a b).toInt ∧ ((mxI a b).toInt = a.toInt ∨ (mxI a b).toInt = b.toInt) := by
  unfold mxI
  by_cases c : a < b
  · rw [if_pos c]
    have := Int32.lt_iff_toInt_lt.mp c
    exact ⟨by omega, by omega, Or.inr rfl⟩
  · rw [if_neg c]
    have : ¬ a.toInt < b.toInt := fun z => c (Int32.lt_iff_toInt_lt.mpr z)
    exact ⟨by omega, by omega, Or.inl rfl⟩
theorem cFr.row {S : List Nat} {F : List (Nat × Nat)} {q q' : dK} (h : cFr S F q q') (j : Nat) (hj : j ∉ S) (hF : ∀ p ∈ F, ¬ p.1 = j) : q'.1 j = q.1 j := by
  funext k
  exact h.1 j k hj (fun z => hF _ z rfl)
theorem mn_k {a b : Int32} {A : Int} (ha : a.toInt = A) : (mnI a b).toInt ≤ A ∧ (mnI a b).toInt ≤ b.toInt ∧ ((mnI a b).toInt = A ∨ (mnI a b).toInt = b.toInt) := by
  rw [← ha]; exact mn_le
theorem mx_k {a b : Int32} {A : Int} (ha : a.toInt = A) : A ≤ (mxI a b).toInt ∧ b.toInt ≤ (mxI a b).toInt ∧ ((mxI a b).toInt = A ∨ (mxI a b).toInt = b.toInt) := by
  rw [← ha]; exact mx_le
