section
/-! the class's pure phase: stores, what stays, ranges -/
theorem cui_o {q : dK} {j k j' : Nat} {v : Int32} (h : ¬ j' = j) : (cui q j k v).1 j' = q.1 j' := if_neg h
theorem cui_s {q : dK} {j k : Nat} {v : Int32} : (cui q j k v).1 j = upd (q.1 j) k v := if_pos rfl
theorem cui_n {q : dK} {j k i : Nat} {v : Int32} (h : ¬ i = k) : (cui q j k v).1 j i = q.1 j i := by rw [cui_s]; exact if_neg h
theorem cui_e {q : dK} {j k : Nat} {v : Int32} : (cui q j k v).1 j k = v := by rw [cui_s]; exact if_pos rfl
theorem cui_x {q : dK} {j k j' i : Nat} {v : Int32} (h : ¬ (j' = j ∧ i = k)) : (cui q j k v).1 j' i = q.1 j' i := by
  by_cases c : j' = j
  · subst c; exact cui_n (fun z => h ⟨rfl, z⟩)
  · rw [cui_o c]
theorem cul_1 {q : dK} {j k : Nat} {v : Int64} : (cul q j k v).1 = q.1 := rfl
/-- what stays: rows outside of S, places outside of F, the laws -/
def cFr (S : List Nat) (F : List (Nat × Nat)) (q q' : dK) : Prop := (∀ j k : Nat, j ∉ S → (j, k) ∉ F → q'.1 j k = q.1 j k) ∧ q'.2.2 = q.2.2
theorem cFr.rf {S : List Nat} {F : List (Nat × Nat)} {q : dK} : cFr S F q q := ⟨fun _ _ _ _ => rfl, rfl⟩
theorem cFr.i {S : List Nat} {F : List (Nat × Nat)} {q q' : dK} (h : cFr S F q q') {j k : Nat} {v : Int32} (hj : j ∈ S) : cFr S F q (cui q' j k v) := by
  refine ⟨fun a b ha hb => ?_, h.2⟩
  rw [cui_o (fun z => ha (by rw [z]; exact hj))]; exact h.1 a b ha hb
theorem cFr.f {S : List Nat} {F : List (Nat × Nat)} {q q' : dK} (h : cFr S F q q') {j k : Nat} {v : Int32} (hk : (j, k) ∈ F) : cFr S F q (cui q' j k v) := by
  refine ⟨fun a b ha hb => ?_, h.2⟩
  rw [cui_x (fun z => hb (by rw [z.1, z.2]; exact hk))]; exact h.1 a b ha hb
theorem cFr.l {S : List Nat} {F : List (Nat × Nat)} {q q' : dK} (h : cFr S F q q') {j k : Nat} {v : Int64} : cFr S F q (cul q' j k v) := h
theorem cFr.g {S : List Nat} {F : List (Nat × Nat)} {q q' : dK} (h : cFr S F q q') {j n : Nat} {v : Int32} (hj : j ∈ S) : cFr S F q (cfi q' j n v) := by
  refine ⟨fun a b ha hb => ?_, h.2⟩
  have e : (cfi q' j n v).1 a = q'.1 a := if_neg (fun z => ha (by rw [z]; exact hj))
  rw [e]; exact h.1 a b ha hb
theorem cFr.c {S : List Nat} {F : List (Nat × Nat)} {q q' : dK} (h : cFr S F q q') {j0 j s d n : Nat} (hj : j ∈ S) : cFr S F q (cci q' j0 j s d n) := by
  refine ⟨fun a b ha hb => ?_, h.2⟩
  have e : (cci q' j0 j s d n).1 a = q'.1 a := if_neg (fun z => ha (by rw [z]; exact hj))
  rw [e]; exact h.1 a b ha hb
theorem cFr.t {S S2 : List Nat} {F F2 : List (Nat × Nat)} {q q' q2 : dK} (h : cFr S F q q') (h2 : cFr S2 F2 q' q2) (hS : ∀ a ∈ S2, a ∈ S) (hF : ∀ a ∈ F2, a ∈ F ∨ a.1 ∈ S) : cFr S F q q2 := by
  refine ⟨fun a b ha hb => ?_, h2.2.trans h.2⟩
  rw [h2.1 a b (fun z => ha (hS a z)) (fun z => ?_)]
  · exact h.1 a b ha hb
  · rcases hF _ z with z2 | z2
    · exact hb z2
    · exact ha z2
/-! ranges by place -/
def twl (k : Nat) : Int := if k = 2 ∨ k = 3 ∨ k = 4 then 0 else -2147483648
def twh (k : Nat) : Int := if k = 2 then 6 else if k = 3 then 16383 else if k = 4 then 1023 else 2147483647
def stl (k : Nat) : Int := if k = 1 ∨ k = 6 ∨ k = 8 then 0 else -2147483648
def sth (k : Nat) : Int := if k = 1 then 10 else if k = 6 ∨ k = 8 then 6 else 2147483647
def clo (j k : Nat) : Int := if j = 0 then (if k = 12 then 0 else -2147483648) else if j = 1 then (stl k) else if j = 2 then (twl k) else if j = 3 then (0) else if j = 4 then (0) else if j = 7 then (0) else if j = 10 then (if k = 2 ∨ k = 5 then 0 else -2147483648) else if j = 15 then (twl k) else if j = 16 then (0) else if j = 17 then (0) else if j = 18 then (if k = 1 then 0 else -2147483648) else if j = 20 then (if k = 2 then 0 else -2147483648) else if j = 24 then (if k = 0 ∨ k = 1 ∨ k = 2 ∨ k = 3 ∨ k = 5 ∨ k = 6 ∨ k = 7 ∨ k = 8 ∨ k = 9 then 0 else -2147483648) else if j = 25 then (if k = 6 ∨ k = 7 then 0 else -2147483648) else if j = 28 then (0) else if j = 29 then (0) else if j = 30 then (0) else if j = 31 then (0) else if j = 32 then (if k = 13 ∨ k = 14 ∨ k = 15 ∨ (100 ≤ k ∧ k < 107) then 0 else -2147483648) else if j = 36 then (0) else if j = 40 then (0) else if j = 41 then (0) else if j = 49 then (stl k) else if j = 50 then (twl k) else if j = 51 then (0) else if j = 52 then (0) else if j = 55 then (0) else if j = 56 then (stl k) else if j = 57 then (twl k) else if j = 58 then (0) else if j = 59 then (0) else if j = 62 then (0) else -2147483648
def chi (j k : Nat) : Int := if j = 0 then (if k = 12 then 400 else 2147483647) else if j = 1 then (sth k) else if j = 2 then (twh k) else if j = 3 then (7) else if j = 4 then (1) else if j = 10 then (if k = 2 ∨ k = 5 then 16 else 2147483647) else if j = 15 then (twh k) else if j = 16 then (7) else if j = 17 then (1) else if j = 18 then (if k = 1 then 1 else 2147483647) else if j = 24 then (if k = 0 ∨ k = 2 ∨ k = 3 then 1 else if k = 1 ∨ k = 5 ∨ k = 6 then 400 else if k = 7 then 1001 else if k = 8 then 50 else if k = 9 then 8 else 2147483647) else if j = 25 then (if k = 6 then 12 else if k = 7 then 400 else 2147483647) else if j = 28 then (400) else if j = 29 then (400) else if j = 30 then (400) else if j = 32 then (if k = 13 then 6 else if k = 14 then 46080 else if k = 15 then 46079 else if 100 ≤ k ∧ k < 107 then 46080 else 2147483647) else if j = 36 then (99) else if j = 40 then (719) else if j = 41 then (63) else if j = 49 then (sth k) else if j = 50 then (twh k) else if j = 51 then (7) else if j = 52 then (1) else if j = 56 then (sth k) else if j = 57 then (twh k) else if j = 58 then (7) else if j = 59 then (1) else 2147483647
/-- a sign of a law's text: what it does -/
def cOp (x : Int32) : Prop := (x &&& 15).toInt ≤ 12
/-- an order's digits: the first of them -/
def cD (x : Int32) : Prop := (x &&& 7).toInt ≤ 5
/-- a law's text -/
def LT (t : dT) : Prop := 0 ≤ t.1.toInt ∧ t.1.toInt ≤ 12 ∧ 0 ≤ t.2.1.toInt ∧ t.2.1.toInt ≤ 400 ∧ t.2.2.1 = t.1 ∧ t.2.2.2.1 = t.2.1 ∧ ∀ j i : Nat, 2 ≤ j → 0 ≤ (t.2.2.2.2 j i).toInt ∧ (j = 5 → cOp (t.2.2.2.2 j i))
def CE (q : dK) : Prop := ∀ j k : Nat, clo j k ≤ (q.1 j k).toInt ∧ (q.1 j k).toInt ≤ chi j k
/-- the codes of laws -/
def CC (q : dK) : Prop := (q.1 20 2).toInt ≤ (q.2.2.length : Int) ∧ ∀ i : Nat, (q.1 7 i).toInt ≤ (q.2.2.length : Int) ∧ (q.1 55 i).toInt ≤ (q.2.2.length : Int) ∧ (q.1 62 i).toInt ≤ (q.2.2.length : Int) ∧ cOp (q.1 31 i) ∧ cD (q.1 39 i)
/-- the lengths of the paper's rows -/
def PL (q : dK) : Prop := (q.1 32 103 = 0 ∧ q.1 32 104 = 0 ∧ q.1 32 105 = 0 ∧ q.1 32 106 = 0 ∧ q.1 32 100 = 0 ∧ q.1 32 101 = 0 ∧ q.1 32 102 = 0) ∨ ∃ f : Nat, f ≤ 6 ∧ (q.1 32 100).toInt = facI f ∧ (q.1 32 101).toInt = 6 * facI f ∧ (q.1 32 102).toInt = 6 * powI f ∧ (q.1 32 103).toInt = facI f * powI f ∧ (q.1 32 104).toInt = facI f * powI f ∧ (q.1 32 105).toInt = facI f * powI f ∧ (q.1 32 106).toInt = facI f * powI f
def CL (q : dK) : Prop := ∀ k : Nat, 0 ≤ (q.2.1 11 k).toInt ∧ 0 ≤ (q.2.1 13 k).toInt
def TC (q : dK) : Prop := CE q ∧ CC q ∧ PL q ∧ CL q ∧ ∀ t ∈ q.2.2, LT t
theorem ce_set {q : dK} {j k : Nat} {v : Int32} (h : CE q) (h1 : clo j k ≤ v.toInt) (h2 : v.toInt ≤ chi j k) : CE (cui q j k v) := by
  intro a b
  by_cases c : a = j ∧ b = k
  · obtain ⟨rfl, rfl⟩ := c
    rw [cui_e]; exact ⟨h1, h2⟩
  · rw [cui_x c]; exact h a b
theorem tc_set {q : dK} {j k : Nat} {v : Int32} (h : TC q) (hj : (j != 7 && j != 55 && j != 62 && j != 31 && j != 39 && (j != 20 || k != 2) && (j != 32 || decide (k < 100))) = true) (h1 : clo j k ≤ v.toInt) (h2 : v.toInt ≤ chi j k) : TC (cui q j k v) := by
  simp only [Bool.and_eq_true, Bool.or_eq_true, bne_iff_ne, ne_eq, decide_eq_true_eq] at hj
  obtain ⟨⟨⟨⟨⟨⟨j1, j2⟩, j3⟩, j6⟩, j7⟩, j4⟩, j5⟩ := hj
  obtain ⟨hE, hC, hP, hL, hT⟩ := h
  refine ⟨ce_set hE h1 h2, ?_, ?_, hL, hT⟩
  · refine ⟨?_, fun i => ?_⟩
    · rw [cui_x (by omega)]; exact hC.1
    · rw [cui_o (fun z => j1 z.symm), cui_o (fun z => j2 z.symm), cui_o (fun z => j3 z.symm), cui_o (fun z => j6 z.symm), cui_o (fun z => j7 z.symm)]; exact hC.2 i
  · unfold PL
    rw [cui_x (by omega), cui_x (by omega), cui_x (by omega), cui_x (by omega), cui_x (by omega), cui_x (by omega), cui_x (by omega)]
    exact hP
theorem tc_l {q : dK} {j k : Nat} {v : Int64} (h : TC q) (hv : j = 11 ∨ j = 13 → 0 ≤ v.toInt) : TC (cul q j k v) := by
  obtain ⟨hE, hC, hP, hL, hT⟩ := h
  refine ⟨hE, hC, hP, fun i => ?_, hT⟩
  have g : ∀ a : Nat, (a = 11 ∨ a = 13) → 0 ≤ (q.2.1 a i).toInt := by
    intro a ha
    rcases ha with e | e
    · rw [e]; exact (hL i).1
    · rw [e]; exact (hL i).2
  have e : ∀ a : Nat, (a = 11 ∨ a = 13) → 0 ≤ ((cul q j k v).2.1 a i).toInt := by
    intro a ha
    show 0 ≤ ((if a = j then vp_updL (q.2.1 j) k v else q.2.1 a) i).toInt
    by_cases c : a = j
    · rw [if_pos c]
      show 0 ≤ (if i = k then v else q.2.1 j i).toInt
      by_cases c2 : i = k
      · rw [if_pos c2]; exact hv (by rw [← c]; exact ha)
      · rw [if_neg c2, ← c]; exact g a ha
    · rw [if_neg c]; exact g a ha
  exact ⟨e 11 (Or.inl rfl), e 13 (Or.inr rfl)⟩
/-- a law's code -/
theorem tc_law {q : dK} {j k : Nat} {v : Int32} (h : TC q) (hj : j = 7 ∨ j = 55 ∨ j = 62 ∨ (j = 20 ∧ k = 2)) (h1 : 0 ≤ v.toInt) (h2 : v.toInt ≤ (q.2.2.length : Int)) : TC (cui q j k v) := by
  obtain ⟨hE, hC, hP, hL, hT⟩ := h
  have hr := ti_rg v
  refine ⟨ce_set hE ?_ ?_, ?_, ?_, hL, hT⟩
  · rcases hj with e | e | e | e
    · subst e; exact h1
    · subst e; exact h1
    · subst e; exact h1
    · obtain ⟨rfl, rfl⟩ := e; exact h1
  · rcases hj with e | e | e | e
    · subst e; exact hr.2
    · subst e; exact hr.2
    · subst e; exact hr.2
    · obtain ⟨rfl, rfl⟩ := e; exact hr.2
  · have g : ∀ a b : Nat, (q.1 a b).toInt ≤ (q.2.2.length : Int) → ((cui q j k v).1 a b).toInt ≤ (q.2.2.length : Int) := by
      intro a b hab
      by_cases c : a = j ∧ b = k
      · obtain ⟨rfl, rfl⟩ := c
        rw [cui_e]; exact h2
      · rw [cui_x c]; exact hab
    exact ⟨g 20 2 hC.1, fun i => ⟨g 7 i (hC.2 i).1, g 55 i (hC.2 i).2.1, g 62 i (hC.2 i).2.2.1, by rw [cui_o (by omega)]; exact (hC.2 i).2.2.2.1, by rw [cui_o (by omega)]; exact (hC.2 i).2.2.2.2⟩⟩
  · unfold PL
    rw [cui_x (by omega), cui_x (by omega), cui_x (by omega), cui_x (by omega), cui_x (by omega), cui_x (by omega), cui_x (by omega)]
    exact hP
theorem tc_31 {q : dK} {k : Nat} {v : Int32} (h : TC q) (h1 : 0 ≤ v.toInt) (h2 : cOp v) : TC (cui q 31 k v) := by
  obtain ⟨hE, hC, hP, hL, hT⟩ := h
  refine ⟨ce_set hE h1 (ti_rg v).2, ?_, ?_, hL, hT⟩
  · refine ⟨by rw [cui_o (by decide)]; exact hC.1, fun i => ?_⟩
    rw [cui_o (by decide), cui_o (by decide), cui_o (by decide), cui_o (j' := 39) (by decide)]
    refine ⟨(hC.2 i).1, (hC.2 i).2.1, (hC.2 i).2.2.1, ?_, (hC.2 i).2.2.2.2⟩
    by_cases c : i = k
    · subst c; rw [cui_e]; exact h2
    · rw [cui_n c]; exact (hC.2 i).2.2.2.1
  · unfold PL
    rw [cui_o (by decide)]
    exact hP
theorem tc_39 {q : dK} {k : Nat} {v : Int32} (h : TC q) (h2 : cD v) : TC (cui q 39 k v) := by
  obtain ⟨hE, hC, hP, hL, hT⟩ := h
  refine ⟨ce_set hE (ti_rg v).1 (ti_rg v).2, ?_, ?_, hL, hT⟩
  · refine ⟨by rw [cui_o (by decide)]; exact hC.1, fun i => ?_⟩
    rw [cui_o (by decide), cui_o (by decide), cui_o (by decide), cui_o (j' := 31) (by decide)]
    refine ⟨(hC.2 i).1, (hC.2 i).2.1, (hC.2 i).2.2.1, (hC.2 i).2.2.2.1, ?_⟩
    by_cases c : i = k
    · subst c; rw [cui_e]; exact h2
    · rw [cui_n c]; exact (hC.2 i).2.2.2.2
  · unfold PL
    rw [cui_o (by decide)]
    exact hP
theorem tc_dlg {q : dK} (h : TC q) {c : Int32} (h0 : ¬ c.toInt = 0) (h1 : 0 ≤ c.toInt) (h2 : c.toInt ≤ (q.2.2.length : Int)) : dlg q c = true := by
  apply decide_eq_true
  have e : Int32.toNatClampNeg c = c.toInt.toNat := rfl
  refine ⟨fun z => h0 (by rw [z]; rfl), ?_⟩
  unfold dLi
  omega
theorem tc_txt {q : dK} (h : TC q) {c : Int32} (hd : dlg q c = true) : LT (dTx q c) := h.2.2.2.2 _ (List.mem_of_getElem? (dTx_get hd))
theorem mn_le {a b : Int32} : (mnI a b).toInt ≤ a.toInt ∧ (mnI a b).toInt ≤ b.toInt ∧ ((mnI a b).toInt = a.toInt ∨ (mnI a b).toInt = b.toInt) := by
  unfold mnI
  by_cases c : b < a
  · rw [if_pos c]
    have := Int32.lt_iff_toInt_lt.mp c
    exact ⟨by omega, by omega, Or.inr rfl⟩
  · rw [if_neg c]
    have : ¬ b.toInt < a.toInt := fun z => c (Int32.lt_iff_toInt_lt.mpr z)
    exact ⟨by omega, by omega, Or.inl rfl⟩
theorem mx_le {a b : Int32} : a.toInt ≤ (mxI a b).toInt ∧ b.toInt ≤ (mxI a b).toInt ∧ ((mxI a b).toInt = a.toInt ∨ (mxI a b).toInt = b.toInt) := by
  unfold mxI
  by_cases c : a < b
  · rw [if_pos c]
    have := Int32.lt_iff_toInt_lt.mp c
    exact ⟨by omega, by omega, Or.inr rfl⟩
  · rw [if_neg c]
    have : ¬ a.toInt < b.toInt := fun z => c (Int32.lt_iff_toInt_lt.mpr z)
    exact ⟨by omega, by omega, Or.inl rfl⟩
theorem cFr.row {S : List Nat} {F : List (Nat × Nat)} {q q' : dK} (h : cFr S F q q') (j : Nat) (hj : j ∉ S) (hF : ∀ p ∈ F, ¬ p.1 = j) : q'.1 j = q.1 j := by
  funext k
  exact h.1 j k hj (fun z => hF _ z rfl)
theorem mn_k {a b : Int32} {A : Int} (ha : a.toInt = A) : (mnI a b).toInt ≤ A ∧ (mnI a b).toInt ≤ b.toInt ∧ ((mnI a b).toInt = A ∨ (mnI a b).toInt = b.toInt) := by
  rw [← ha]; exact mn_le
theorem mx_k {a b : Int32} {A : Int} (ha : a.toInt = A) : A ≤ (mxI a b).toInt ∧ b.toInt ≤ (mxI a b).toInt ∧ ((mxI a b).toInt = A ∨ (mxI a b).toInt = b.toInt) := by
  rw [← ha]; exact mx_le
end
section
/-! ranges and stores, a row or a place each (worked out once) -/
theorem rg_3 {q : dK} (h : TC q) (k : Nat) : 0 ≤ Int32.toInt (q.1 3 k) ∧ Int32.toInt (q.1 3 k) ≤ 7 := h.1 3 k
theorem st_3 {q : dK} {k : Nat} {v : Int32} (h : TC q) (h1 : 0 ≤ Int32.toInt v) (h2 : Int32.toInt v ≤ 7) : TC (cui q 3 k v) := tc_set h rfl h1 h2
theorem rg_4 {q : dK} (h : TC q) (k : Nat) : 0 ≤ Int32.toInt (q.1 4 k) ∧ Int32.toInt (q.1 4 k) ≤ 1 := h.1 4 k
theorem st_4 {q : dK} {k : Nat} {v : Int32} (h : TC q) (h1 : 0 ≤ Int32.toInt v) (h2 : Int32.toInt v ≤ 1) : TC (cui q 4 k v) := tc_set h rfl h1 h2
theorem sa_5 {q : dK} {k : Nat} {v : Int32} (h : TC q) : TC (cui q 5 k v) := tc_set h rfl (ti_rg v).1 (ti_rg v).2
theorem sa_6 {q : dK} {k : Nat} {v : Int32} (h : TC q) : TC (cui q 6 k v) := tc_set h rfl (ti_rg v).1 (ti_rg v).2
theorem rg_7 {q : dK} (h : TC q) (k : Nat) : 0 ≤ Int32.toInt (q.1 7 k) ∧ Int32.toInt (q.1 7 k) ≤ 2147483647 := h.1 7 k
theorem sa_9 {q : dK} {k : Nat} {v : Int32} (h : TC q) : TC (cui q 9 k v) := tc_set h rfl (ti_rg v).1 (ti_rg v).2
theorem sa_12 {q : dK} {k : Nat} {v : Int32} (h : TC q) : TC (cui q 12 k v) := tc_set h rfl (ti_rg v).1 (ti_rg v).2
theorem sa_14 {q : dK} {k : Nat} {v : Int32} (h : TC q) : TC (cui q 14 k v) := tc_set h rfl (ti_rg v).1 (ti_rg v).2
theorem rg_16 {q : dK} (h : TC q) (k : Nat) : 0 ≤ Int32.toInt (q.1 16 k) ∧ Int32.toInt (q.1 16 k) ≤ 7 := h.1 16 k
theorem st_16 {q : dK} {k : Nat} {v : Int32} (h : TC q) (h1 : 0 ≤ Int32.toInt v) (h2 : Int32.toInt v ≤ 7) : TC (cui q 16 k v) := tc_set h rfl h1 h2
theorem rg_17 {q : dK} (h : TC q) (k : Nat) : 0 ≤ Int32.toInt (q.1 17 k) ∧ Int32.toInt (q.1 17 k) ≤ 1 := h.1 17 k
theorem st_17 {q : dK} {k : Nat} {v : Int32} (h : TC q) (h1 : 0 ≤ Int32.toInt v) (h2 : Int32.toInt v ≤ 1) : TC (cui q 17 k v) := tc_set h rfl h1 h2
theorem sa_19 {q : dK} {k : Nat} {v : Int32} (h : TC q) : TC (cui q 19 k v) := tc_set h rfl (ti_rg v).1 (ti_rg v).2
theorem sa_21 {q : dK} {k : Nat} {v : Int32} (h : TC q) : TC (cui q 21 k v) := tc_set h rfl (ti_rg v).1 (ti_rg v).2
theorem sa_23 {q : dK} {k : Nat} {v : Int32} (h : TC q) : TC (cui q 23 k v) := tc_set h rfl (ti_rg v).1 (ti_rg v).2
theorem sa_26 {q : dK} {k : Nat} {v : Int32} (h : TC q) : TC (cui q 26 k v) := tc_set h rfl (ti_rg v).1 (ti_rg v).2
theorem sa_27 {q : dK} {k : Nat} {v : Int32} (h : TC q) : TC (cui q 27 k v) := tc_set h rfl (ti_rg v).1 (ti_rg v).2
theorem rg_28 {q : dK} (h : TC q) (k : Nat) : 0 ≤ Int32.toInt (q.1 28 k) ∧ Int32.toInt (q.1 28 k) ≤ 400 := h.1 28 k
theorem st_28 {q : dK} {k : Nat} {v : Int32} (h : TC q) (h1 : 0 ≤ Int32.toInt v) (h2 : Int32.toInt v ≤ 400) : TC (cui q 28 k v) := tc_set h rfl h1 h2
theorem rg_29 {q : dK} (h : TC q) (k : Nat) : 0 ≤ Int32.toInt (q.1 29 k) ∧ Int32.toInt (q.1 29 k) ≤ 400 := h.1 29 k
theorem st_29 {q : dK} {k : Nat} {v : Int32} (h : TC q) (h1 : 0 ≤ Int32.toInt v) (h2 : Int32.toInt v ≤ 400) : TC (cui q 29 k v) := tc_set h rfl h1 h2
theorem rg_30 {q : dK} (h : TC q) (k : Nat) : 0 ≤ Int32.toInt (q.1 30 k) ∧ Int32.toInt (q.1 30 k) ≤ 400 := h.1 30 k
theorem st_30 {q : dK} {k : Nat} {v : Int32} (h : TC q) (h1 : 0 ≤ Int32.toInt v) (h2 : Int32.toInt v ≤ 400) : TC (cui q 30 k v) := tc_set h rfl h1 h2
theorem rg_31 {q : dK} (h : TC q) (k : Nat) : 0 ≤ Int32.toInt (q.1 31 k) ∧ Int32.toInt (q.1 31 k) ≤ 2147483647 := h.1 31 k
theorem st_31 {q : dK} {k : Nat} {v : Int32} (h : TC q) (h1 : 0 ≤ Int32.toInt v) (h2 : cOp v) : TC (cui q 31 k v) := tc_31 h h1 h2
theorem sa_33 {q : dK} {k : Nat} {v : Int32} (h : TC q) : TC (cui q 33 k v) := tc_set h rfl (ti_rg v).1 (ti_rg v).2
theorem sa_34 {q : dK} {k : Nat} {v : Int32} (h : TC q) : TC (cui q 34 k v) := tc_set h rfl (ti_rg v).1 (ti_rg v).2
theorem sa_35 {q : dK} {k : Nat} {v : Int32} (h : TC q) : TC (cui q 35 k v) := tc_set h rfl (ti_rg v).1 (ti_rg v).2
theorem rg_36 {q : dK} (h : TC q) (k : Nat) : 0 ≤ Int32.toInt (q.1 36 k) ∧ Int32.toInt (q.1 36 k) ≤ 99 := h.1 36 k
theorem st_36 {q : dK} {k : Nat} {v : Int32} (h : TC q) (h1 : 0 ≤ Int32.toInt v) (h2 : Int32.toInt v ≤ 99) : TC (cui q 36 k v) := tc_set h rfl h1 h2
theorem sa_37 {q : dK} {k : Nat} {v : Int32} (h : TC q) : TC (cui q 37 k v) := tc_set h rfl (ti_rg v).1 (ti_rg v).2
theorem sa_38 {q : dK} {k : Nat} {v : Int32} (h : TC q) : TC (cui q 38 k v) := tc_set h rfl (ti_rg v).1 (ti_rg v).2
theorem st_39 {q : dK} {k : Nat} {v : Int32} (h : TC q) (h2 : cD v) : TC (cui q 39 k v) := tc_39 h h2
theorem rg_40 {q : dK} (h : TC q) (k : Nat) : 0 ≤ Int32.toInt (q.1 40 k) ∧ Int32.toInt (q.1 40 k) ≤ 719 := h.1 40 k
theorem st_40 {q : dK} {k : Nat} {v : Int32} (h : TC q) (h1 : 0 ≤ Int32.toInt v) (h2 : Int32.toInt v ≤ 719) : TC (cui q 40 k v) := tc_set h rfl h1 h2
theorem rg_41 {q : dK} (h : TC q) (k : Nat) : 0 ≤ Int32.toInt (q.1 41 k) ∧ Int32.toInt (q.1 41 k) ≤ 63 := h.1 41 k
theorem st_41 {q : dK} {k : Nat} {v : Int32} (h : TC q) (h1 : 0 ≤ Int32.toInt v) (h2 : Int32.toInt v ≤ 63) : TC (cui q 41 k v) := tc_set h rfl h1 h2
theorem sa_42 {q : dK} {k : Nat} {v : Int32} (h : TC q) : TC (cui q 42 k v) := tc_set h rfl (ti_rg v).1 (ti_rg v).2
theorem sa_43 {q : dK} {k : Nat} {v : Int32} (h : TC q) : TC (cui q 43 k v) := tc_set h rfl (ti_rg v).1 (ti_rg v).2
theorem sa_44 {q : dK} {k : Nat} {v : Int32} (h : TC q) : TC (cui q 44 k v) := tc_set h rfl (ti_rg v).1 (ti_rg v).2
theorem sa_45 {q : dK} {k : Nat} {v : Int32} (h : TC q) : TC (cui q 45 k v) := tc_set h rfl (ti_rg v).1 (ti_rg v).2
theorem sa_46 {q : dK} {k : Nat} {v : Int32} (h : TC q) : TC (cui q 46 k v) := tc_set h rfl (ti_rg v).1 (ti_rg v).2
theorem sa_48 {q : dK} {k : Nat} {v : Int32} (h : TC q) : TC (cui q 48 k v) := tc_set h rfl (ti_rg v).1 (ti_rg v).2
theorem rg_51 {q : dK} (h : TC q) (k : Nat) : 0 ≤ Int32.toInt (q.1 51 k) ∧ Int32.toInt (q.1 51 k) ≤ 7 := h.1 51 k
theorem st_51 {q : dK} {k : Nat} {v : Int32} (h : TC q) (h1 : 0 ≤ Int32.toInt v) (h2 : Int32.toInt v ≤ 7) : TC (cui q 51 k v) := tc_set h rfl h1 h2
theorem rg_52 {q : dK} (h : TC q) (k : Nat) : 0 ≤ Int32.toInt (q.1 52 k) ∧ Int32.toInt (q.1 52 k) ≤ 1 := h.1 52 k
theorem st_52 {q : dK} {k : Nat} {v : Int32} (h : TC q) (h1 : 0 ≤ Int32.toInt v) (h2 : Int32.toInt v ≤ 1) : TC (cui q 52 k v) := tc_set h rfl h1 h2
theorem sa_53 {q : dK} {k : Nat} {v : Int32} (h : TC q) : TC (cui q 53 k v) := tc_set h rfl (ti_rg v).1 (ti_rg v).2
theorem sa_54 {q : dK} {k : Nat} {v : Int32} (h : TC q) : TC (cui q 54 k v) := tc_set h rfl (ti_rg v).1 (ti_rg v).2
theorem rg_55 {q : dK} (h : TC q) (k : Nat) : 0 ≤ Int32.toInt (q.1 55 k) ∧ Int32.toInt (q.1 55 k) ≤ 2147483647 := h.1 55 k
theorem rg_58 {q : dK} (h : TC q) (k : Nat) : 0 ≤ Int32.toInt (q.1 58 k) ∧ Int32.toInt (q.1 58 k) ≤ 7 := h.1 58 k
theorem st_58 {q : dK} {k : Nat} {v : Int32} (h : TC q) (h1 : 0 ≤ Int32.toInt v) (h2 : Int32.toInt v ≤ 7) : TC (cui q 58 k v) := tc_set h rfl h1 h2
theorem rg_59 {q : dK} (h : TC q) (k : Nat) : 0 ≤ Int32.toInt (q.1 59 k) ∧ Int32.toInt (q.1 59 k) ≤ 1 := h.1 59 k
theorem st_59 {q : dK} {k : Nat} {v : Int32} (h : TC q) (h1 : 0 ≤ Int32.toInt v) (h2 : Int32.toInt v ≤ 1) : TC (cui q 59 k v) := tc_set h rfl h1 h2
theorem sa_60 {q : dK} {k : Nat} {v : Int32} (h : TC q) : TC (cui q 60 k v) := tc_set h rfl (ti_rg v).1 (ti_rg v).2
theorem sa_61 {q : dK} {k : Nat} {v : Int32} (h : TC q) : TC (cui q 61 k v) := tc_set h rfl (ti_rg v).1 (ti_rg v).2
theorem rg_62 {q : dK} (h : TC q) (k : Nat) : 0 ≤ Int32.toInt (q.1 62 k) ∧ Int32.toInt (q.1 62 k) ≤ 2147483647 := h.1 62 k
theorem sa_0_0 {q : dK} {v : Int32} (h : TC q) : TC (cui q 0 0 v) := tc_set h rfl (ti_rg v).1 (ti_rg v).2
theorem sa_0_1 {q : dK} {v : Int32} (h : TC q) : TC (cui q 0 1 v) := tc_set h rfl (ti_rg v).1 (ti_rg v).2
theorem sa_0_2 {q : dK} {v : Int32} (h : TC q) : TC (cui q 0 2 v) := tc_set h rfl (ti_rg v).1 (ti_rg v).2
theorem sa_0_3 {q : dK} {v : Int32} (h : TC q) : TC (cui q 0 3 v) := tc_set h rfl (ti_rg v).1 (ti_rg v).2
theorem sa_0_4 {q : dK} {v : Int32} (h : TC q) : TC (cui q 0 4 v) := tc_set h rfl (ti_rg v).1 (ti_rg v).2
theorem sa_0_5 {q : dK} {v : Int32} (h : TC q) : TC (cui q 0 5 v) := tc_set h rfl (ti_rg v).1 (ti_rg v).2
theorem sa_0_6 {q : dK} {v : Int32} (h : TC q) : TC (cui q 0 6 v) := tc_set h rfl (ti_rg v).1 (ti_rg v).2
theorem sa_0_7 {q : dK} {v : Int32} (h : TC q) : TC (cui q 0 7 v) := tc_set h rfl (ti_rg v).1 (ti_rg v).2
theorem sa_0_8 {q : dK} {v : Int32} (h : TC q) : TC (cui q 0 8 v) := tc_set h rfl (ti_rg v).1 (ti_rg v).2
theorem sa_0_9 {q : dK} {v : Int32} (h : TC q) : TC (cui q 0 9 v) := tc_set h rfl (ti_rg v).1 (ti_rg v).2
theorem sa_0_10 {q : dK} {v : Int32} (h : TC q) : TC (cui q 0 10 v) := tc_set h rfl (ti_rg v).1 (ti_rg v).2
theorem sa_0_11 {q : dK} {v : Int32} (h : TC q) : TC (cui q 0 11 v) := tc_set h rfl (ti_rg v).1 (ti_rg v).2
theorem rg_0_12 {q : dK} (h : TC q) : 0 ≤ Int32.toInt (q.1 0 12) ∧ Int32.toInt (q.1 0 12) ≤ 400 := h.1 0 12
theorem st_0_12 {q : dK} {v : Int32} (h : TC q) (h1 : 0 ≤ Int32.toInt v) (h2 : Int32.toInt v ≤ 400) : TC (cui q 0 12 v) := tc_set h rfl h1 h2
theorem sa_0_13 {q : dK} {v : Int32} (h : TC q) : TC (cui q 0 13 v) := tc_set h rfl (ti_rg v).1 (ti_rg v).2
theorem sa_0_14 {q : dK} {v : Int32} (h : TC q) : TC (cui q 0 14 v) := tc_set h rfl (ti_rg v).1 (ti_rg v).2
theorem sa_0_15 {q : dK} {v : Int32} (h : TC q) : TC (cui q 0 15 v) := tc_set h rfl (ti_rg v).1 (ti_rg v).2
theorem sa_0_16 {q : dK} {v : Int32} (h : TC q) : TC (cui q 0 16 v) := tc_set h rfl (ti_rg v).1 (ti_rg v).2
theorem sa_0_17 {q : dK} {v : Int32} (h : TC q) : TC (cui q 0 17 v) := tc_set h rfl (ti_rg v).1 (ti_rg v).2
theorem sa_0_18 {q : dK} {v : Int32} (h : TC q) : TC (cui q 0 18 v) := tc_set h rfl (ti_rg v).1 (ti_rg v).2
theorem sa_1_0 {q : dK} {v : Int32} (h : TC q) : TC (cui q 1 0 v) := tc_set h rfl (ti_rg v).1 (ti_rg v).2
theorem rg_1_1 {q : dK} (h : TC q) : 0 ≤ Int32.toInt (q.1 1 1) ∧ Int32.toInt (q.1 1 1) ≤ 10 := h.1 1 1
theorem st_1_1 {q : dK} {v : Int32} (h : TC q) (h1 : 0 ≤ Int32.toInt v) (h2 : Int32.toInt v ≤ 10) : TC (cui q 1 1 v) := tc_set h rfl h1 h2
theorem sa_1_2 {q : dK} {v : Int32} (h : TC q) : TC (cui q 1 2 v) := tc_set h rfl (ti_rg v).1 (ti_rg v).2
theorem sa_1_3 {q : dK} {v : Int32} (h : TC q) : TC (cui q 1 3 v) := tc_set h rfl (ti_rg v).1 (ti_rg v).2
theorem sa_1_4 {q : dK} {v : Int32} (h : TC q) : TC (cui q 1 4 v) := tc_set h rfl (ti_rg v).1 (ti_rg v).2
theorem sa_1_5 {q : dK} {v : Int32} (h : TC q) : TC (cui q 1 5 v) := tc_set h rfl (ti_rg v).1 (ti_rg v).2
theorem rg_1_6 {q : dK} (h : TC q) : 0 ≤ Int32.toInt (q.1 1 6) ∧ Int32.toInt (q.1 1 6) ≤ 6 := h.1 1 6
theorem st_1_6 {q : dK} {v : Int32} (h : TC q) (h1 : 0 ≤ Int32.toInt v) (h2 : Int32.toInt v ≤ 6) : TC (cui q 1 6 v) := tc_set h rfl h1 h2
theorem sa_1_7 {q : dK} {v : Int32} (h : TC q) : TC (cui q 1 7 v) := tc_set h rfl (ti_rg v).1 (ti_rg v).2
theorem rg_1_8 {q : dK} (h : TC q) : 0 ≤ Int32.toInt (q.1 1 8) ∧ Int32.toInt (q.1 1 8) ≤ 6 := h.1 1 8
theorem st_1_8 {q : dK} {v : Int32} (h : TC q) (h1 : 0 ≤ Int32.toInt v) (h2 : Int32.toInt v ≤ 6) : TC (cui q 1 8 v) := tc_set h rfl h1 h2
theorem sa_1_9 {q : dK} {v : Int32} (h : TC q) : TC (cui q 1 9 v) := tc_set h rfl (ti_rg v).1 (ti_rg v).2
theorem sa_2_0 {q : dK} {v : Int32} (h : TC q) : TC (cui q 2 0 v) := tc_set h rfl (ti_rg v).1 (ti_rg v).2
theorem sa_2_1 {q : dK} {v : Int32} (h : TC q) : TC (cui q 2 1 v) := tc_set h rfl (ti_rg v).1 (ti_rg v).2
theorem rg_2_2 {q : dK} (h : TC q) : 0 ≤ Int32.toInt (q.1 2 2) ∧ Int32.toInt (q.1 2 2) ≤ 6 := h.1 2 2
theorem st_2_2 {q : dK} {v : Int32} (h : TC q) (h1 : 0 ≤ Int32.toInt v) (h2 : Int32.toInt v ≤ 6) : TC (cui q 2 2 v) := tc_set h rfl h1 h2
theorem rg_2_3 {q : dK} (h : TC q) : 0 ≤ Int32.toInt (q.1 2 3) ∧ Int32.toInt (q.1 2 3) ≤ 16383 := h.1 2 3
theorem st_2_3 {q : dK} {v : Int32} (h : TC q) (h1 : 0 ≤ Int32.toInt v) (h2 : Int32.toInt v ≤ 16383) : TC (cui q 2 3 v) := tc_set h rfl h1 h2
theorem rg_2_4 {q : dK} (h : TC q) : 0 ≤ Int32.toInt (q.1 2 4) ∧ Int32.toInt (q.1 2 4) ≤ 1023 := h.1 2 4
theorem st_2_4 {q : dK} {v : Int32} (h : TC q) (h1 : 0 ≤ Int32.toInt v) (h2 : Int32.toInt v ≤ 1023) : TC (cui q 2 4 v) := tc_set h rfl h1 h2
theorem sa_10_0 {q : dK} {v : Int32} (h : TC q) : TC (cui q 10 0 v) := tc_set h rfl (ti_rg v).1 (ti_rg v).2
theorem sa_10_1 {q : dK} {v : Int32} (h : TC q) : TC (cui q 10 1 v) := tc_set h rfl (ti_rg v).1 (ti_rg v).2
theorem rg_10_2 {q : dK} (h : TC q) : 0 ≤ Int32.toInt (q.1 10 2) ∧ Int32.toInt (q.1 10 2) ≤ 16 := h.1 10 2
theorem st_10_2 {q : dK} {v : Int32} (h : TC q) (h1 : 0 ≤ Int32.toInt v) (h2 : Int32.toInt v ≤ 16) : TC (cui q 10 2 v) := tc_set h rfl h1 h2
theorem sa_10_3 {q : dK} {v : Int32} (h : TC q) : TC (cui q 10 3 v) := tc_set h rfl (ti_rg v).1 (ti_rg v).2
theorem sa_10_4 {q : dK} {v : Int32} (h : TC q) : TC (cui q 10 4 v) := tc_set h rfl (ti_rg v).1 (ti_rg v).2
theorem rg_10_5 {q : dK} (h : TC q) : 0 ≤ Int32.toInt (q.1 10 5) ∧ Int32.toInt (q.1 10 5) ≤ 16 := h.1 10 5
theorem st_10_5 {q : dK} {v : Int32} (h : TC q) (h1 : 0 ≤ Int32.toInt v) (h2 : Int32.toInt v ≤ 16) : TC (cui q 10 5 v) := tc_set h rfl h1 h2
theorem sa_15_0 {q : dK} {v : Int32} (h : TC q) : TC (cui q 15 0 v) := tc_set h rfl (ti_rg v).1 (ti_rg v).2
theorem sa_15_1 {q : dK} {v : Int32} (h : TC q) : TC (cui q 15 1 v) := tc_set h rfl (ti_rg v).1 (ti_rg v).2
theorem rg_15_2 {q : dK} (h : TC q) : 0 ≤ Int32.toInt (q.1 15 2) ∧ Int32.toInt (q.1 15 2) ≤ 6 := h.1 15 2
theorem st_15_2 {q : dK} {v : Int32} (h : TC q) (h1 : 0 ≤ Int32.toInt v) (h2 : Int32.toInt v ≤ 6) : TC (cui q 15 2 v) := tc_set h rfl h1 h2
theorem rg_15_3 {q : dK} (h : TC q) : 0 ≤ Int32.toInt (q.1 15 3) ∧ Int32.toInt (q.1 15 3) ≤ 16383 := h.1 15 3
theorem st_15_3 {q : dK} {v : Int32} (h : TC q) (h1 : 0 ≤ Int32.toInt v) (h2 : Int32.toInt v ≤ 16383) : TC (cui q 15 3 v) := tc_set h rfl h1 h2
theorem rg_15_4 {q : dK} (h : TC q) : 0 ≤ Int32.toInt (q.1 15 4) ∧ Int32.toInt (q.1 15 4) ≤ 1023 := h.1 15 4
theorem st_15_4 {q : dK} {v : Int32} (h : TC q) (h1 : 0 ≤ Int32.toInt v) (h2 : Int32.toInt v ≤ 1023) : TC (cui q 15 4 v) := tc_set h rfl h1 h2
theorem sa_18_0 {q : dK} {v : Int32} (h : TC q) : TC (cui q 18 0 v) := tc_set h rfl (ti_rg v).1 (ti_rg v).2
theorem rg_18_1 {q : dK} (h : TC q) : 0 ≤ Int32.toInt (q.1 18 1) ∧ Int32.toInt (q.1 18 1) ≤ 1 := h.1 18 1
theorem st_18_1 {q : dK} {v : Int32} (h : TC q) (h1 : 0 ≤ Int32.toInt v) (h2 : Int32.toInt v ≤ 1) : TC (cui q 18 1 v) := tc_set h rfl h1 h2
theorem sa_20_0 {q : dK} {v : Int32} (h : TC q) : TC (cui q 20 0 v) := tc_set h rfl (ti_rg v).1 (ti_rg v).2
theorem sa_20_1 {q : dK} {v : Int32} (h : TC q) : TC (cui q 20 1 v) := tc_set h rfl (ti_rg v).1 (ti_rg v).2
theorem rg_20_2 {q : dK} (h : TC q) : 0 ≤ Int32.toInt (q.1 20 2) ∧ Int32.toInt (q.1 20 2) ≤ 2147483647 := h.1 20 2
theorem sa_22_0 {q : dK} {v : Int32} (h : TC q) : TC (cui q 22 0 v) := tc_set h rfl (ti_rg v).1 (ti_rg v).2
theorem sa_22_1 {q : dK} {v : Int32} (h : TC q) : TC (cui q 22 1 v) := tc_set h rfl (ti_rg v).1 (ti_rg v).2
theorem sa_22_2 {q : dK} {v : Int32} (h : TC q) : TC (cui q 22 2 v) := tc_set h rfl (ti_rg v).1 (ti_rg v).2
theorem sa_22_3 {q : dK} {v : Int32} (h : TC q) : TC (cui q 22 3 v) := tc_set h rfl (ti_rg v).1 (ti_rg v).2
theorem rg_24_0 {q : dK} (h : TC q) : 0 ≤ Int32.toInt (q.1 24 0) ∧ Int32.toInt (q.1 24 0) ≤ 1 := h.1 24 0
theorem st_24_0 {q : dK} {v : Int32} (h : TC q) (h1 : 0 ≤ Int32.toInt v) (h2 : Int32.toInt v ≤ 1) : TC (cui q 24 0 v) := tc_set h rfl h1 h2
theorem rg_24_1 {q : dK} (h : TC q) : 0 ≤ Int32.toInt (q.1 24 1) ∧ Int32.toInt (q.1 24 1) ≤ 400 := h.1 24 1
theorem st_24_1 {q : dK} {v : Int32} (h : TC q) (h1 : 0 ≤ Int32.toInt v) (h2 : Int32.toInt v ≤ 400) : TC (cui q 24 1 v) := tc_set h rfl h1 h2
theorem rg_24_2 {q : dK} (h : TC q) : 0 ≤ Int32.toInt (q.1 24 2) ∧ Int32.toInt (q.1 24 2) ≤ 1 := h.1 24 2
theorem st_24_2 {q : dK} {v : Int32} (h : TC q) (h1 : 0 ≤ Int32.toInt v) (h2 : Int32.toInt v ≤ 1) : TC (cui q 24 2 v) := tc_set h rfl h1 h2
theorem rg_24_3 {q : dK} (h : TC q) : 0 ≤ Int32.toInt (q.1 24 3) ∧ Int32.toInt (q.1 24 3) ≤ 1 := h.1 24 3
theorem st_24_3 {q : dK} {v : Int32} (h : TC q) (h1 : 0 ≤ Int32.toInt v) (h2 : Int32.toInt v ≤ 1) : TC (cui q 24 3 v) := tc_set h rfl h1 h2
theorem sa_24_4 {q : dK} {v : Int32} (h : TC q) : TC (cui q 24 4 v) := tc_set h rfl (ti_rg v).1 (ti_rg v).2
theorem rg_24_5 {q : dK} (h : TC q) : 0 ≤ Int32.toInt (q.1 24 5) ∧ Int32.toInt (q.1 24 5) ≤ 400 := h.1 24 5
theorem st_24_5 {q : dK} {v : Int32} (h : TC q) (h1 : 0 ≤ Int32.toInt v) (h2 : Int32.toInt v ≤ 400) : TC (cui q 24 5 v) := tc_set h rfl h1 h2
theorem rg_24_6 {q : dK} (h : TC q) : 0 ≤ Int32.toInt (q.1 24 6) ∧ Int32.toInt (q.1 24 6) ≤ 400 := h.1 24 6
theorem st_24_6 {q : dK} {v : Int32} (h : TC q) (h1 : 0 ≤ Int32.toInt v) (h2 : Int32.toInt v ≤ 400) : TC (cui q 24 6 v) := tc_set h rfl h1 h2
theorem rg_24_7 {q : dK} (h : TC q) : 0 ≤ Int32.toInt (q.1 24 7) ∧ Int32.toInt (q.1 24 7) ≤ 1001 := h.1 24 7
theorem st_24_7 {q : dK} {v : Int32} (h : TC q) (h1 : 0 ≤ Int32.toInt v) (h2 : Int32.toInt v ≤ 1001) : TC (cui q 24 7 v) := tc_set h rfl h1 h2
theorem rg_24_8 {q : dK} (h : TC q) : 0 ≤ Int32.toInt (q.1 24 8) ∧ Int32.toInt (q.1 24 8) ≤ 50 := h.1 24 8
theorem st_24_8 {q : dK} {v : Int32} (h : TC q) (h1 : 0 ≤ Int32.toInt v) (h2 : Int32.toInt v ≤ 50) : TC (cui q 24 8 v) := tc_set h rfl h1 h2
theorem rg_24_9 {q : dK} (h : TC q) : 0 ≤ Int32.toInt (q.1 24 9) ∧ Int32.toInt (q.1 24 9) ≤ 8 := h.1 24 9
theorem st_24_9 {q : dK} {v : Int32} (h : TC q) (h1 : 0 ≤ Int32.toInt v) (h2 : Int32.toInt v ≤ 8) : TC (cui q 24 9 v) := tc_set h rfl h1 h2
theorem sa_24_10 {q : dK} {v : Int32} (h : TC q) : TC (cui q 24 10 v) := tc_set h rfl (ti_rg v).1 (ti_rg v).2
theorem sa_25_0 {q : dK} {v : Int32} (h : TC q) : TC (cui q 25 0 v) := tc_set h rfl (ti_rg v).1 (ti_rg v).2
theorem sa_25_1 {q : dK} {v : Int32} (h : TC q) : TC (cui q 25 1 v) := tc_set h rfl (ti_rg v).1 (ti_rg v).2
theorem sa_25_2 {q : dK} {v : Int32} (h : TC q) : TC (cui q 25 2 v) := tc_set h rfl (ti_rg v).1 (ti_rg v).2
theorem sa_25_3 {q : dK} {v : Int32} (h : TC q) : TC (cui q 25 3 v) := tc_set h rfl (ti_rg v).1 (ti_rg v).2
theorem sa_25_4 {q : dK} {v : Int32} (h : TC q) : TC (cui q 25 4 v) := tc_set h rfl (ti_rg v).1 (ti_rg v).2
theorem sa_25_5 {q : dK} {v : Int32} (h : TC q) : TC (cui q 25 5 v) := tc_set h rfl (ti_rg v).1 (ti_rg v).2
theorem rg_25_6 {q : dK} (h : TC q) : 0 ≤ Int32.toInt (q.1 25 6) ∧ Int32.toInt (q.1 25 6) ≤ 12 := h.1 25 6
theorem st_25_6 {q : dK} {v : Int32} (h : TC q) (h1 : 0 ≤ Int32.toInt v) (h2 : Int32.toInt v ≤ 12) : TC (cui q 25 6 v) := tc_set h rfl h1 h2
theorem rg_25_7 {q : dK} (h : TC q) : 0 ≤ Int32.toInt (q.1 25 7) ∧ Int32.toInt (q.1 25 7) ≤ 400 := h.1 25 7
theorem st_25_7 {q : dK} {v : Int32} (h : TC q) (h1 : 0 ≤ Int32.toInt v) (h2 : Int32.toInt v ≤ 400) : TC (cui q 25 7 v) := tc_set h rfl h1 h2
theorem sa_32_0 {q : dK} {v : Int32} (h : TC q) : TC (cui q 32 0 v) := tc_set h rfl (ti_rg v).1 (ti_rg v).2
theorem sa_32_1 {q : dK} {v : Int32} (h : TC q) : TC (cui q 32 1 v) := tc_set h rfl (ti_rg v).1 (ti_rg v).2
theorem sa_32_2 {q : dK} {v : Int32} (h : TC q) : TC (cui q 32 2 v) := tc_set h rfl (ti_rg v).1 (ti_rg v).2
theorem sa_32_3 {q : dK} {v : Int32} (h : TC q) : TC (cui q 32 3 v) := tc_set h rfl (ti_rg v).1 (ti_rg v).2
theorem sa_32_4 {q : dK} {v : Int32} (h : TC q) : TC (cui q 32 4 v) := tc_set h rfl (ti_rg v).1 (ti_rg v).2
theorem sa_32_5 {q : dK} {v : Int32} (h : TC q) : TC (cui q 32 5 v) := tc_set h rfl (ti_rg v).1 (ti_rg v).2
theorem sa_32_6 {q : dK} {v : Int32} (h : TC q) : TC (cui q 32 6 v) := tc_set h rfl (ti_rg v).1 (ti_rg v).2
theorem sa_32_7 {q : dK} {v : Int32} (h : TC q) : TC (cui q 32 7 v) := tc_set h rfl (ti_rg v).1 (ti_rg v).2
theorem sa_32_8 {q : dK} {v : Int32} (h : TC q) : TC (cui q 32 8 v) := tc_set h rfl (ti_rg v).1 (ti_rg v).2
theorem sa_32_9 {q : dK} {v : Int32} (h : TC q) : TC (cui q 32 9 v) := tc_set h rfl (ti_rg v).1 (ti_rg v).2
theorem sa_32_10 {q : dK} {v : Int32} (h : TC q) : TC (cui q 32 10 v) := tc_set h rfl (ti_rg v).1 (ti_rg v).2
theorem sa_32_11 {q : dK} {v : Int32} (h : TC q) : TC (cui q 32 11 v) := tc_set h rfl (ti_rg v).1 (ti_rg v).2
theorem sa_32_12 {q : dK} {v : Int32} (h : TC q) : TC (cui q 32 12 v) := tc_set h rfl (ti_rg v).1 (ti_rg v).2
theorem rg_32_13 {q : dK} (h : TC q) : 0 ≤ Int32.toInt (q.1 32 13) ∧ Int32.toInt (q.1 32 13) ≤ 6 := h.1 32 13
theorem st_32_13 {q : dK} {v : Int32} (h : TC q) (h1 : 0 ≤ Int32.toInt v) (h2 : Int32.toInt v ≤ 6) : TC (cui q 32 13 v) := tc_set h rfl h1 h2
theorem rg_32_14 {q : dK} (h : TC q) : 0 ≤ Int32.toInt (q.1 32 14) ∧ Int32.toInt (q.1 32 14) ≤ 46080 := h.1 32 14
theorem st_32_14 {q : dK} {v : Int32} (h : TC q) (h1 : 0 ≤ Int32.toInt v) (h2 : Int32.toInt v ≤ 46080) : TC (cui q 32 14 v) := tc_set h rfl h1 h2
theorem rg_32_15 {q : dK} (h : TC q) : 0 ≤ Int32.toInt (q.1 32 15) ∧ Int32.toInt (q.1 32 15) ≤ 46079 := h.1 32 15
theorem st_32_15 {q : dK} {v : Int32} (h : TC q) (h1 : 0 ≤ Int32.toInt v) (h2 : Int32.toInt v ≤ 46079) : TC (cui q 32 15 v) := tc_set h rfl h1 h2
theorem sa_32_16 {q : dK} {v : Int32} (h : TC q) : TC (cui q 32 16 v) := tc_set h rfl (ti_rg v).1 (ti_rg v).2
theorem sa_32_17 {q : dK} {v : Int32} (h : TC q) : TC (cui q 32 17 v) := tc_set h rfl (ti_rg v).1 (ti_rg v).2
theorem sa_32_18 {q : dK} {v : Int32} (h : TC q) : TC (cui q 32 18 v) := tc_set h rfl (ti_rg v).1 (ti_rg v).2
theorem sa_32_19 {q : dK} {v : Int32} (h : TC q) : TC (cui q 32 19 v) := tc_set h rfl (ti_rg v).1 (ti_rg v).2
theorem rg_32_100 {q : dK} (h : TC q) : 0 ≤ Int32.toInt (q.1 32 100) ∧ Int32.toInt (q.1 32 100) ≤ 46080 := h.1 32 100
theorem rg_32_101 {q : dK} (h : TC q) : 0 ≤ Int32.toInt (q.1 32 101) ∧ Int32.toInt (q.1 32 101) ≤ 46080 := h.1 32 101
theorem rg_32_102 {q : dK} (h : TC q) : 0 ≤ Int32.toInt (q.1 32 102) ∧ Int32.toInt (q.1 32 102) ≤ 46080 := h.1 32 102
theorem rg_32_103 {q : dK} (h : TC q) : 0 ≤ Int32.toInt (q.1 32 103) ∧ Int32.toInt (q.1 32 103) ≤ 46080 := h.1 32 103
theorem rg_32_104 {q : dK} (h : TC q) : 0 ≤ Int32.toInt (q.1 32 104) ∧ Int32.toInt (q.1 32 104) ≤ 46080 := h.1 32 104
theorem rg_32_105 {q : dK} (h : TC q) : 0 ≤ Int32.toInt (q.1 32 105) ∧ Int32.toInt (q.1 32 105) ≤ 46080 := h.1 32 105
theorem rg_32_106 {q : dK} (h : TC q) : 0 ≤ Int32.toInt (q.1 32 106) ∧ Int32.toInt (q.1 32 106) ≤ 46080 := h.1 32 106
theorem sa_49_0 {q : dK} {v : Int32} (h : TC q) : TC (cui q 49 0 v) := tc_set h rfl (ti_rg v).1 (ti_rg v).2
theorem rg_49_1 {q : dK} (h : TC q) : 0 ≤ Int32.toInt (q.1 49 1) ∧ Int32.toInt (q.1 49 1) ≤ 10 := h.1 49 1
theorem st_49_1 {q : dK} {v : Int32} (h : TC q) (h1 : 0 ≤ Int32.toInt v) (h2 : Int32.toInt v ≤ 10) : TC (cui q 49 1 v) := tc_set h rfl h1 h2
theorem sa_49_2 {q : dK} {v : Int32} (h : TC q) : TC (cui q 49 2 v) := tc_set h rfl (ti_rg v).1 (ti_rg v).2
theorem sa_49_3 {q : dK} {v : Int32} (h : TC q) : TC (cui q 49 3 v) := tc_set h rfl (ti_rg v).1 (ti_rg v).2
theorem sa_49_4 {q : dK} {v : Int32} (h : TC q) : TC (cui q 49 4 v) := tc_set h rfl (ti_rg v).1 (ti_rg v).2
theorem sa_49_5 {q : dK} {v : Int32} (h : TC q) : TC (cui q 49 5 v) := tc_set h rfl (ti_rg v).1 (ti_rg v).2
theorem rg_49_6 {q : dK} (h : TC q) : 0 ≤ Int32.toInt (q.1 49 6) ∧ Int32.toInt (q.1 49 6) ≤ 6 := h.1 49 6
theorem st_49_6 {q : dK} {v : Int32} (h : TC q) (h1 : 0 ≤ Int32.toInt v) (h2 : Int32.toInt v ≤ 6) : TC (cui q 49 6 v) := tc_set h rfl h1 h2
theorem sa_49_7 {q : dK} {v : Int32} (h : TC q) : TC (cui q 49 7 v) := tc_set h rfl (ti_rg v).1 (ti_rg v).2
theorem rg_49_8 {q : dK} (h : TC q) : 0 ≤ Int32.toInt (q.1 49 8) ∧ Int32.toInt (q.1 49 8) ≤ 6 := h.1 49 8
theorem st_49_8 {q : dK} {v : Int32} (h : TC q) (h1 : 0 ≤ Int32.toInt v) (h2 : Int32.toInt v ≤ 6) : TC (cui q 49 8 v) := tc_set h rfl h1 h2
theorem sa_49_9 {q : dK} {v : Int32} (h : TC q) : TC (cui q 49 9 v) := tc_set h rfl (ti_rg v).1 (ti_rg v).2
theorem sa_50_0 {q : dK} {v : Int32} (h : TC q) : TC (cui q 50 0 v) := tc_set h rfl (ti_rg v).1 (ti_rg v).2
theorem sa_50_1 {q : dK} {v : Int32} (h : TC q) : TC (cui q 50 1 v) := tc_set h rfl (ti_rg v).1 (ti_rg v).2
theorem rg_50_2 {q : dK} (h : TC q) : 0 ≤ Int32.toInt (q.1 50 2) ∧ Int32.toInt (q.1 50 2) ≤ 6 := h.1 50 2
theorem st_50_2 {q : dK} {v : Int32} (h : TC q) (h1 : 0 ≤ Int32.toInt v) (h2 : Int32.toInt v ≤ 6) : TC (cui q 50 2 v) := tc_set h rfl h1 h2
theorem rg_50_3 {q : dK} (h : TC q) : 0 ≤ Int32.toInt (q.1 50 3) ∧ Int32.toInt (q.1 50 3) ≤ 16383 := h.1 50 3
theorem st_50_3 {q : dK} {v : Int32} (h : TC q) (h1 : 0 ≤ Int32.toInt v) (h2 : Int32.toInt v ≤ 16383) : TC (cui q 50 3 v) := tc_set h rfl h1 h2
theorem rg_50_4 {q : dK} (h : TC q) : 0 ≤ Int32.toInt (q.1 50 4) ∧ Int32.toInt (q.1 50 4) ≤ 1023 := h.1 50 4
theorem st_50_4 {q : dK} {v : Int32} (h : TC q) (h1 : 0 ≤ Int32.toInt v) (h2 : Int32.toInt v ≤ 1023) : TC (cui q 50 4 v) := tc_set h rfl h1 h2
theorem sa_56_0 {q : dK} {v : Int32} (h : TC q) : TC (cui q 56 0 v) := tc_set h rfl (ti_rg v).1 (ti_rg v).2
theorem rg_56_1 {q : dK} (h : TC q) : 0 ≤ Int32.toInt (q.1 56 1) ∧ Int32.toInt (q.1 56 1) ≤ 10 := h.1 56 1
theorem st_56_1 {q : dK} {v : Int32} (h : TC q) (h1 : 0 ≤ Int32.toInt v) (h2 : Int32.toInt v ≤ 10) : TC (cui q 56 1 v) := tc_set h rfl h1 h2
theorem sa_56_2 {q : dK} {v : Int32} (h : TC q) : TC (cui q 56 2 v) := tc_set h rfl (ti_rg v).1 (ti_rg v).2
theorem sa_56_3 {q : dK} {v : Int32} (h : TC q) : TC (cui q 56 3 v) := tc_set h rfl (ti_rg v).1 (ti_rg v).2
theorem sa_56_4 {q : dK} {v : Int32} (h : TC q) : TC (cui q 56 4 v) := tc_set h rfl (ti_rg v).1 (ti_rg v).2
theorem sa_56_5 {q : dK} {v : Int32} (h : TC q) : TC (cui q 56 5 v) := tc_set h rfl (ti_rg v).1 (ti_rg v).2
theorem rg_56_6 {q : dK} (h : TC q) : 0 ≤ Int32.toInt (q.1 56 6) ∧ Int32.toInt (q.1 56 6) ≤ 6 := h.1 56 6
theorem st_56_6 {q : dK} {v : Int32} (h : TC q) (h1 : 0 ≤ Int32.toInt v) (h2 : Int32.toInt v ≤ 6) : TC (cui q 56 6 v) := tc_set h rfl h1 h2
theorem sa_56_7 {q : dK} {v : Int32} (h : TC q) : TC (cui q 56 7 v) := tc_set h rfl (ti_rg v).1 (ti_rg v).2
theorem rg_56_8 {q : dK} (h : TC q) : 0 ≤ Int32.toInt (q.1 56 8) ∧ Int32.toInt (q.1 56 8) ≤ 6 := h.1 56 8
theorem st_56_8 {q : dK} {v : Int32} (h : TC q) (h1 : 0 ≤ Int32.toInt v) (h2 : Int32.toInt v ≤ 6) : TC (cui q 56 8 v) := tc_set h rfl h1 h2
theorem sa_56_9 {q : dK} {v : Int32} (h : TC q) : TC (cui q 56 9 v) := tc_set h rfl (ti_rg v).1 (ti_rg v).2
theorem sa_57_0 {q : dK} {v : Int32} (h : TC q) : TC (cui q 57 0 v) := tc_set h rfl (ti_rg v).1 (ti_rg v).2
theorem sa_57_1 {q : dK} {v : Int32} (h : TC q) : TC (cui q 57 1 v) := tc_set h rfl (ti_rg v).1 (ti_rg v).2
theorem rg_57_2 {q : dK} (h : TC q) : 0 ≤ Int32.toInt (q.1 57 2) ∧ Int32.toInt (q.1 57 2) ≤ 6 := h.1 57 2
theorem st_57_2 {q : dK} {v : Int32} (h : TC q) (h1 : 0 ≤ Int32.toInt v) (h2 : Int32.toInt v ≤ 6) : TC (cui q 57 2 v) := tc_set h rfl h1 h2
theorem rg_57_3 {q : dK} (h : TC q) : 0 ≤ Int32.toInt (q.1 57 3) ∧ Int32.toInt (q.1 57 3) ≤ 16383 := h.1 57 3
theorem st_57_3 {q : dK} {v : Int32} (h : TC q) (h1 : 0 ≤ Int32.toInt v) (h2 : Int32.toInt v ≤ 16383) : TC (cui q 57 3 v) := tc_set h rfl h1 h2
theorem rg_57_4 {q : dK} (h : TC q) : 0 ≤ Int32.toInt (q.1 57 4) ∧ Int32.toInt (q.1 57 4) ≤ 1023 := h.1 57 4
theorem st_57_4 {q : dK} {v : Int32} (h : TC q) (h1 : 0 ≤ Int32.toInt v) (h2 : Int32.toInt v ≤ 1023) : TC (cui q 57 4 v) := tc_set h rfl h1 h2
end
section
/-! long numbers of a packed tower -/
/-! numbers shifted by constants, told as integers -/
theorem bm32 {z : Int} (h1 : -2147483648 ≤ z) (h2 : z < 2147483648) : Int.bmod z (2 ^ 32) = z := Int.bmod_eq_of_le (by omega) (by omega)
theorem bm64 {z : Int} (h1 : -9223372036854775808 ≤ z) (h2 : z < 9223372036854775808) : Int.bmod z (2 ^ 64) = z := Int.bmod_eq_of_le (by omega) (by omega)
theorem w_i32 {x : Int64} (h1 : -2147483648 ≤ x.toInt) (h2 : x.toInt < 2147483648) : x.toInt32.toInt = x.toInt := by rw [Int64.toInt_toInt32]; exact bm32 h1 h2
theorem w_shr (x n : Int64) {k : Nat} (hn : (n.toBitVec.smod 64).toNat = k) : (x >>> n).toInt = x.toInt / 2 ^ k := by
  show (x.toBitVec.sshiftRight' (n.toBitVec.smod 64)).toInt = _
  rw [BitVec.toInt_sshiftRight', hn, Int.shiftRight_eq_div_pow]
  rfl
theorem w_shr32 (x n : Int32) {k : Nat} (hn : (n.toBitVec.smod 32).toNat = k) : (x >>> n).toInt = x.toInt / 2 ^ k := by
  show (x.toBitVec.sshiftRight' (n.toBitVec.smod 32)).toInt = _
  rw [BitVec.toInt_sshiftRight', hn, Int.shiftRight_eq_div_pow]
  rfl
theorem w_shl (x n : Int64) {k : Nat} (hn : (n.toBitVec.smod 64).toNat = k) (h1 : -9223372036854775808 ≤ x.toInt * 2 ^ k) (h2 : x.toInt * 2 ^ k < 9223372036854775808) : (x <<< n).toInt = x.toInt * 2 ^ k := by
  show (x.toBitVec <<< (n.toBitVec.smod 64)).toInt = _
  rw [BitVec.shiftLeft_eq', BitVec.toInt_shiftLeft, hn, Nat.shiftLeft_eq, Int.natCast_mul, Int.natCast_pow, ← Int.bmod_mul_bmod, ← BitVec.toInt_eq_toNat_bmod]
  exact bm64 h1 h2
theorem w_shl32 (x n : Int32) {k : Nat} (hn : (n.toBitVec.smod 32).toNat = k) (h1 : -2147483648 ≤ x.toInt * 2 ^ k) (h2 : x.toInt * 2 ^ k < 2147483648) : (x <<< n).toInt = x.toInt * 2 ^ k := by
  show (x.toBitVec <<< (n.toBitVec.smod 32)).toInt = _
  rw [BitVec.shiftLeft_eq', BitVec.toInt_shiftLeft, hn, Nat.shiftLeft_eq, Int.natCast_mul, Int.natCast_pow, ← Int.bmod_mul_bmod, ← BitVec.toInt_eq_toNat_bmod]
  exact bm32 h1 h2
theorem w_and (x m : Int64) (M : Nat) (hm : m.toBitVec.toNat = M) (hM : M < 2147483648) : 0 ≤ (Int64.toInt32 (x &&& m)).toInt ∧ (Int64.toInt32 (x &&& m)).toInt ≤ (M : Int) := by
  have h1 : (x.toBitVec &&& m.toBitVec).toNat ≤ M := by rw [BitVec.toNat_and, hm]; exact Nat.and_le_right
  have h2 : (x &&& m).toInt = ((x.toBitVec &&& m.toBitVec).toNat : Int) := by
    show (x.toBitVec &&& m.toBitVec).toInt = _
    rw [BitVec.toInt_eq_toNat_cond, if_pos (by omega)]
  rw [w_i32 (by omega) (by omega), h2]
  omega
def pkB (i : Int) : Int := if i = 0 then 8 else if i = 1 then 128 else if i = 2 then 2048 else if i = 3 then 32768 else if i = 4 then 524288 else if i = 5 then 8388608 else 134217728
def upB (i : Int) : Int := if i = 5 then 549755813888 else if i = 4 then 34359738368 else if i = 3 then 2147483648 else if i = 2 then 134217728 else if i = 1 then 8388608 else if i = 0 then 524288 else 32768
theorem pkB_le {x i : Int} (h : x < pkB i) : x < 134217728 := by
  have h2 : ∀ i : Int, pkB i ≤ 134217728 := by
    intro i
    unfold pkB
    repeat' split
    all_goals omega
  have := h2 i
  omega
theorem pkB_s {x r g i : Int} (h0 : 0 ≤ i) (h5 : i ≤ 5) (h : x < pkB i) (hr : r ≤ 7) (hg : g ≤ 1) : 16 * x + 2 * r + g < pkB (i + 1) := by
  have hc : i = 0 ∨ i = 1 ∨ i = 2 ∨ i = 3 ∨ i = 4 ∨ i = 5 := by omega
  rcases hc with e | e | e | e | e | e
  · subst e; replace h : x < 8 := h; show 16 * x + 2 * r + g < 128; omega
  · subst e; replace h : x < 128 := h; show 16 * x + 2 * r + g < 2048; omega
  · subst e; replace h : x < 2048 := h; show 16 * x + 2 * r + g < 32768; omega
  · subst e; replace h : x < 32768 := h; show 16 * x + 2 * r + g < 524288; omega
  · subst e; replace h : x < 524288 := h; show 16 * x + 2 * r + g < 8388608; omega
  · subst e; replace h : x < 8388608 := h; show 16 * x + 2 * r + g < 134217728; omega
theorem upB_m {x i : Int} (hi : i = -1) (h : x < upB i) : x < 32768 := by
  subst hi; exact h
theorem upB_s {x i : Int} (h0 : 0 ≤ i) (h5 : i ≤ 5) (h : x < upB i) : x / 2 ^ 4 < upB (i + (-1)) := by
  have hc : i = 0 ∨ i = 1 ∨ i = 2 ∨ i = 3 ∨ i = 4 ∨ i = 5 := by omega
  rcases hc with e | e | e | e | e | e
  · subst e; replace h : x < 524288 := h; show x / 2 ^ 4 < 32768; omega
  · subst e; replace h : x < 8388608 := h; show x / 2 ^ 4 < 524288; omega
  · subst e; replace h : x < 134217728 := h; show x / 2 ^ 4 < 8388608; omega
  · subst e; replace h : x < 2147483648 := h; show x / 2 ^ 4 < 134217728; omega
  · subst e; replace h : x < 34359738368 := h; show x / 2 ^ 4 < 2147483648; omega
  · subst e; replace h : x < 549755813888 := h; show x / 2 ^ 4 < 34359738368; omega
theorem sh1_32 {r : Int32} (h0 : 0 ≤ r.toInt) (h1 : r.toInt ≤ 7) : (r <<< ((1 : Int32) &&& 31)).toInt = 2 * r.toInt := by
  obtain ⟨n, rfl, hn, -⟩ := ti_nI h0
  have h : ∀ n : Nat, n < 8 → (nI n <<< ((1 : Int32) &&& 31)).toInt = 2 * (n : Int) := by decide +kernel
  rw [h n (by omega), ← hn]
theorem pk_step {x : Int64} {r h : Int32} (hx0 : 0 ≤ x.toInt) (hx : x.toInt < 134217728) (hr0 : 0 ≤ r.toInt) (hr : r.toInt ≤ 7) (hh0 : 0 ≤ h.toInt) (hh : h.toInt ≤ 1) : ((x <<< (Int32.toInt64 (4 : Int32) &&& 63)) ||| Int32.toInt64 (r <<< ((1 : Int32) &&& 31)) ||| Int32.toInt64 h).toInt = 16 * x.toInt + 2 * r.toInt + h.toInt := by
  have e1 : (x <<< (Int32.toInt64 (4 : Int32) &&& 63)).toInt = x.toInt * 2 ^ 4 := w_shl x _ (by decide) (by omega) (by omega)
  have e3 : (Int32.toInt64 (r <<< ((1 : Int32) &&& 31))).toInt = 2 * r.toInt := by rw [Int32.toInt_toInt64, sh1_32 hr0 hr]
  have e4 := k2_or_add (x := x <<< (Int32.toInt64 (4 : Int32) &&& 63)) (y := Int32.toInt64 (r <<< ((1 : Int32) &&& 31))) (k := 4) (z := x.toInt) (by decide) hx0 e1 (by omega) (by omega) (by omega)
  have e5 : (Int32.toInt64 h).toInt = h.toInt := Int32.toInt_toInt64 h
  have e6 := k2_or_add (x := (x <<< (Int32.toInt64 (4 : Int32) &&& 63)) ||| Int32.toInt64 (r <<< ((1 : Int32) &&& 31))) (y := Int32.toInt64 h) (k := 1) (z := 8 * x.toInt + r.toInt) (by decide) (by omega) (by omega) (by omega) (by omega) (by omega)
  rw [e6, e4, e1, e3, e5]
  omega
theorem pk_end {x : Int64} {p y : Int32} (hx0 : 0 ≤ x.toInt) (hx : x.toInt < 134217728) (hp0 : 0 ≤ p.toInt) (hp : p.toInt ≤ 16383) (hy0 : 0 ≤ y.toInt) (hy : y.toInt ≤ 1023) : 0 ≤ ((((x <<< (Int32.toInt64 (14 : Int32) &&& 63)) ||| Int32.toInt64 p) <<< (Int32.toInt64 (10 : Int32) &&& 63)) ||| Int32.toInt64 y).toInt := by
  have e1 : (x <<< (Int32.toInt64 (14 : Int32) &&& 63)).toInt = x.toInt * 2 ^ 14 := w_shl x _ (by decide) (by omega) (by omega)
  have e2 : (Int32.toInt64 p).toInt = p.toInt := Int32.toInt_toInt64 p
  have e3 : (Int32.toInt64 y).toInt = y.toInt := Int32.toInt_toInt64 y
  have e4 := k2_or_add (x := x <<< (Int32.toInt64 (14 : Int32) &&& 63)) (y := Int32.toInt64 p) (k := 14) (z := x.toInt) (by decide) hx0 e1 (by omega) (by omega) (by omega)
  generalize hg : (x <<< (Int32.toInt64 (14 : Int32) &&& 63)) ||| Int32.toInt64 p = g at e4 ⊢
  have e5 : (g <<< (Int32.toInt64 (10 : Int32) &&& 63)).toInt = g.toInt * 2 ^ 10 := w_shl g _ (by decide) (by omega) (by omega)
  have e6 := k2_or_add (x := g <<< (Int32.toInt64 (10 : Int32) &&& 63)) (y := Int32.toInt64 y) (k := 10) (z := g.toInt) (by decide) (by omega) e5 (by omega) (by omega) (by omega)
  rw [e6]
  omega
theorem um_1 (x : Int64) : 0 ≤ (Int64.toInt32 (x &&& 1)).toInt ∧ (Int64.toInt32 (x &&& 1)).toInt ≤ 1 := w_and x 1 1 (by decide) (by decide)
theorem um_7 (x : Int64) : 0 ≤ (Int64.toInt32 (x &&& 7)).toInt ∧ (Int64.toInt32 (x &&& 7)).toInt ≤ 7 := w_and x 7 7 (by decide) (by decide)
theorem um_10 (x : Int64) : 0 ≤ (Int64.toInt32 (x &&& 1023)).toInt ∧ (Int64.toInt32 (x &&& 1023)).toInt ≤ 1023 := w_and x 1023 1023 (by decide) (by decide)
theorem um_14 (x : Int64) : 0 ≤ (Int64.toInt32 (x &&& 16383)).toInt ∧ (Int64.toInt32 (x &&& 16383)).toInt ≤ 16383 := w_and x 16383 16383 (by decide) (by decide)
theorem us_4 (x : Int64) : (x >>> (Int32.toInt64 (4 : Int32) &&& 63)).toInt = x.toInt / 2 ^ 4 := w_shr x _ (by decide)
theorem us_24 (x : Int64) : (x >>> (Int32.toInt64 (24 : Int32) &&& 63)).toInt = x.toInt / 2 ^ 24 := w_shr x _ (by decide)
/-- rows without a range -/
def freeR : List Nat := [5, 6, 8, 9, 12, 14, 19, 21, 23, 26, 27, 33, 34, 35, 37, 38, 42, 43, 44, 45, 46, 48, 53, 54, 60, 61]
theorem free_r : ∀ j ∈ freeR, ∀ k : Nat, clo j k = -2147483648 ∧ chi j k = 2147483647 := by
  intro j hj k
  simp only [freeR, List.mem_cons, List.not_mem_nil, or_false] at hj
  rcases hj with e | e | e | e | e | e | e | e | e | e | e | e | e | e | e | e | e | e | e | e | e | e | e | e | e | e <;> subst e <;> exact ⟨rfl, rfl⟩
theorem tc_fr {q q' : dK} (h : TC q) (S : List Nat) (hS : ∀ j ∈ S, j ∈ freeR) (h1 : ∀ j k : Nat, j ∉ S → q'.1 j k = q.1 j k) (h2 : CL q') (h3 : q'.2.2 = q.2.2) : TC q' := by
  obtain ⟨hE, hC, hP, hL, hT⟩ := h
  have n7 : 7 ∉ S := fun z => absurd (hS 7 z) (by decide)
  have n20 : 20 ∉ S := fun z => absurd (hS 20 z) (by decide)
  have n32 : 32 ∉ S := fun z => absurd (hS 32 z) (by decide)
  have n31 : 31 ∉ S := fun z => absurd (hS 31 z) (by decide)
  have n39 : 39 ∉ S := fun z => absurd (hS 39 z) (by decide)
  have n55 : 55 ∉ S := fun z => absurd (hS 55 z) (by decide)
  have n62 : 62 ∉ S := fun z => absurd (hS 62 z) (by decide)
  refine ⟨fun j k => ?_, ?_, ?_, h2, by rw [h3]; exact hT⟩
  · by_cases c : j ∈ S
    · have hr := ti_rg (q'.1 j k)
      have hf := free_r j (hS j c) k
      rw [hf.1, hf.2]; exact hr
    · rw [h1 j k c]; exact hE j k
  · unfold CC
    rw [h3]
    refine ⟨by rw [h1 20 2 n20]; exact hC.1, fun i => ?_⟩
    rw [h1 7 i n7, h1 55 i n55, h1 62 i n62, h1 31 i n31, h1 39 i n39]; exact hC.2 i
  · unfold PL
    rw [h1 32 100 n32, h1 32 101 n32, h1 32 102 n32, h1 32 103 n32, h1 32 104 n32, h1 32 105 n32, h1 32 106 n32]; exact hP
theorem tc_cci {q : dK} (h : TC q) {j0 j s d n : Nat} (hj : j ∈ freeR) : TC (cci q j0 j s d n) := by
  refine tc_fr h [j] (fun a ha => by rw [List.mem_singleton] at ha; rw [ha]; exact hj) (fun a k ha => ?_) h.2.2.2.1 rfl
  have e : (cci q j0 j s d n).1 a = q.1 a := if_neg (fun z => ha (by rw [z]; exact List.mem_singleton.mpr rfl))
  rw [e]
theorem tc_cfi {q : dK} (h : TC q) {j n : Nat} {v : Int32} (hj : j ∈ freeR) : TC (cfi q j n v) := by
  refine tc_fr h [j] (fun a ha => by rw [List.mem_singleton] at ha; rw [ha]; exact hj) (fun a k ha => ?_) h.2.2.2.1 rfl
  have e : (cfi q j n v).1 a = q.1 a := if_neg (fun z => ha (by rw [z]; exact List.mem_singleton.mpr rfl))
  rw [e]
theorem tc_cfi36 {q : dK} (h : TC q) {n : Nat} : TC (cfi q 36 n 0) := by
  obtain ⟨hE, hC, hP, hL, hT⟩ := h
  have e : ∀ a : Nat, ¬ a = 36 → (cfi q 36 n 0).1 a = q.1 a := fun a ha => if_neg ha
  have e2 : (cfi q 36 n 0).1 36 = kz_fl (q.1 36) n 0 := by
    show (if (36 : Nat) = 36 then kz_fl (q.1 36) n 0 else q.1 36) = _
    rw [if_pos rfl]
  refine ⟨fun j k => ?_, ?_, ?_, hL, hT⟩
  · by_cases c : j = 36
    · subst c
      rw [e2]
      unfold kz_fl
      split
      · exact ⟨(by decide : (0 : Int) ≤ 0), (by decide : (0 : Int) ≤ 99)⟩
      · exact hE 36 k
    · rw [e j c]; exact hE j k
  · refine ⟨by rw [e 20 (by decide)]; exact hC.1, fun i => ?_⟩
    rw [e 7 (by decide), e 55 (by decide), e 62 (by decide), e 31 (by decide), e 39 (by decide)]; exact hC.2 i
  · unfold PL
    rw [e 32 (by decide)]; exact hP
theorem tc_ccl {q : dK} (h : TC q) {j0 j s d n : Nat} (hj0 : j0 = 11 ∨ j0 = 13) : TC (ccl q j0 j s d n) := by
  refine tc_fr h [] (fun a ha => absurd ha List.not_mem_nil) (fun a k _ => rfl) (fun k => ?_) rfl
  have hL := h.2.2.2.1
  have g0 : ∀ i : Nat, 0 ≤ (q.2.1 j0 i).toInt := by
    intro i
    rcases hj0 with e | e
    · rw [e]; exact (hL i).1
    · rw [e]; exact (hL i).2
  have g : ∀ a : Nat, (0 ≤ (q.2.1 a k).toInt) → 0 ≤ ((ccl q j0 j s d n).2.1 a k).toInt := by
    intro a ha
    show 0 ≤ ((if a = j then va_cpy (q.2.1 j0) (q.2.1 j) s d n else q.2.1 a) k).toInt
    by_cases c : a = j
    · rw [if_pos c]
      unfold va_cpy
      split
      · exact g0 _
      · rw [← c]; exact ha
    · rw [if_neg c]; exact ha
  exact ⟨g 11 (hL k).1, g 13 (hL k).2⟩
theorem cFr.h {S : List Nat} {F : List (Nat × Nat)} {q q' : dK} (h : cFr S F q q') {j0 j s d n : Nat} : cFr S F q (ccl q' j0 j s d n) := h
theorem cFr.fl {S : List Nat} {F : List (Nat × Nat)} {q q' : dK} (h : cFr S F q q') {j n : Nat} {v : Int64} : cFr S F q (cfl q' j n v) := h
theorem tc_cfl {q : dK} (h : TC q) {j n : Nat} {v : Int64} (hj : ¬ j = 11 ∧ ¬ j = 13) : TC (cfl q j n v) := by
  refine tc_fr h [] (fun a ha => absurd ha List.not_mem_nil) (fun a k _ => rfl) (fun k => ?_) rfl
  have e : ∀ a : Nat, ¬ a = j → (cfl q j n v).2.1 a = q.2.1 a := fun a ha => if_neg ha
  rw [e 11 (fun z => hj.1 z.symm), e 13 (fun z => hj.2 z.symm)]
  exact h.2.2.2.1 k
theorem ti_shr {x s : Int32} (h : 0 ≤ x.toInt) : 0 ≤ (x >>> (s &&& 31)).toInt ∧ (x >>> (s &&& 31)).toInt ≤ x.toInt := by
  have e := w_shr32 x (s &&& 31) (k := ((s &&& 31).toBitVec.smod 32).toNat) rfl
  have h2 : (0 : Int) < 2 ^ ((s &&& 31).toBitVec.smod 32).toNat := Int.pow_pos (by decide)
  rw [e]
  exact ⟨Int.ediv_nonneg h (Int.le_of_lt h2), Int.ediv_le_self _ h⟩
theorem ti_and15 (x : Int32) : 0 ≤ (x &&& 15).toInt ∧ (x &&& 15).toInt ≤ 15 := by
  have h := pk_and x (m := 15) 4 (by decide)
  rw [h, nI_toInt (by omega)]
  omega
theorem of_cl {x : Int32} (h : 0 ≤ x.toInt) : Int32.toInt (Int32.ofNat (Int32.toNatClampNeg x)) = x.toInt := by
  have h2 := cl_lt x
  have h3 := cl_eq h
  have h4 : Int32.toInt (nI (Int32.toNatClampNeg x)) = ((Int32.toNatClampNeg x : Nat) : Int) := nI_toInt (by omega)
  exact h4.trans h3
/-! a law's text by its parts -/
noncomputable def txFun : Nat → dK → Int32 → Int32 := Classical.choose (⟨_, rfl⟩ : ∃ f : Nat → dK → Int32 → Int32, f = fun i q c => if i = 0 then (dTx q c).1 else if i = 1 then (dTx q c).2.1 else if i = 2 then (dTx q c).2.2.1 else (dTx q c).2.2.2.1)
theorem txFun_e : txFun = fun i q c => if i = 0 then (dTx q c).1 else if i = 1 then (dTx q c).2.1 else if i = 2 then (dTx q c).2.2.1 else (dTx q c).2.2.2.1 := Classical.choose_spec (⟨_, rfl⟩ : ∃ f : Nat → dK → Int32 → Int32, f = fun i q c => if i = 0 then (dTx q c).1 else if i = 1 then (dTx q c).2.1 else if i = 2 then (dTx q c).2.2.1 else (dTx q c).2.2.2.1)
noncomputable def txRun : dK → Int32 → Nat → Nat → Int32 := Classical.choose (⟨_, rfl⟩ : ∃ f : dK → Int32 → Nat → Nat → Int32, f = fun q c => (dTx q c).2.2.2.2)
theorem txRun_e : txRun = fun q c => (dTx q c).2.2.2.2 := Classical.choose_spec (⟨_, rfl⟩ : ∃ f : dK → Int32 → Nat → Nat → Int32, f = fun q c => (dTx q c).2.2.2.2)
noncomputable def txC (q : dK) (c : Int32) : Int32 := txFun 0 q c
noncomputable def txL (q : dK) (c : Int32) : Int32 := txFun 1 q c
noncomputable def txN (q : dK) (c : Int32) : Int32 := txFun 2 q c
noncomputable def txK (q : dK) (c : Int32) : Int32 := txFun 3 q c
noncomputable def txR (q : dK) (c : Int32) : Nat → Nat → Int32 := txRun q c
theorem txC_r (q : dK) (c : Int32) : (dTx q c).1 = txC q c := by unfold txC; rw [txFun_e]; rfl
theorem txL_r (q : dK) (c : Int32) : (dTx q c).2.1 = txL q c := by unfold txL; rw [txFun_e]; rfl
theorem txN_r (q : dK) (c : Int32) : (dTx q c).2.2.1 = txN q c := by unfold txN; rw [txFun_e]; rfl
theorem txK_r (q : dK) (c : Int32) : (dTx q c).2.2.2.1 = txK q c := by unfold txK; rw [txFun_e]; rfl
theorem txR_r (q : dK) (c : Int32) : (dTx q c).2.2.2.2 = txR q c := by unfold txR; rw [txRun_e]
theorem tx_C {q : dK} {c : Int32} (hT : TC q) (hd : dlg q c = true) : 0 ≤ Int32.toInt (txC q c) ∧ Int32.toInt (txC q c) ≤ 12 := by rw [← txC_r]; exact ⟨(tc_txt hT hd).1, (tc_txt hT hd).2.1⟩
theorem tx_L {q : dK} {c : Int32} (hT : TC q) (hd : dlg q c = true) : 0 ≤ Int32.toInt (txL q c) ∧ Int32.toInt (txL q c) ≤ 400 := by rw [← txL_r]; exact ⟨(tc_txt hT hd).2.2.1, (tc_txt hT hd).2.2.2.1⟩
theorem tx_N2 {q : dK} {c : Int32} (hT : TC q) (hd : dlg q c = true) : Int32.toInt (txN q c) = Int32.toInt (txC q c) := by rw [← txC_r, ← txN_r]; exact congrArg Int32.toInt (tc_txt hT hd).2.2.2.2.1
theorem tx_K2 {q : dK} {c : Int32} (hT : TC q) (hd : dlg q c = true) : Int32.toInt (txK q c) = Int32.toInt (txL q c) := by rw [← txL_r, ← txK_r]; exact congrArg Int32.toInt (tc_txt hT hd).2.2.2.2.2.1
theorem tx_N {q : dK} {c : Int32} (hT : TC q) (hd : dlg q c = true) : 0 ≤ Int32.toInt (txN q c) ∧ Int32.toInt (txN q c) ≤ 12 := by rw [tx_N2 hT hd]; exact tx_C hT hd
theorem tx_K {q : dK} {c : Int32} (hT : TC q) (hd : dlg q c = true) : 0 ≤ Int32.toInt (txK q c) ∧ Int32.toInt (txK q c) ≤ 400 := by rw [tx_K2 hT hd]; exact tx_L hT hd
theorem tx_R {q : dK} {c : Int32} (hT : TC q) (hd : dlg q c = true) (j i : Nat) (hj : 2 ≤ j) : 0 ≤ Int32.toInt (txR q c j i) := by rw [← txR_r]; exact ((tc_txt hT hd).2.2.2.2.2.2 j i hj).1
theorem tx_O {q : dK} {c : Int32} (hT : TC q) (hd : dlg q c = true) (i : Nat) : cOp (txR q c 5 i) := by rw [← txR_r]; exact ((tc_txt hT hd).2.2.2.2.2.2 5 i (by decide)).2 rfl
theorem tx_e {q q' : dK} {c : Int32} (h : q'.2.2 = q.2.2) : dTx q' c = dTx q c := by unfold dTx; rw [h]
theorem tx_eqC {q q' : dK} {c : Int32} (h : q'.2.2 = q.2.2) : Int32.toInt (txC q' c) = Int32.toInt (txC q c) := by rw [← txC_r, ← txC_r, tx_e h]
theorem tx_eqL {q q' : dK} {c : Int32} (h : q'.2.2 = q.2.2) : Int32.toInt (txL q' c) = Int32.toInt (txL q c) := by rw [← txL_r, ← txL_r, tx_e h]
theorem tx_eqN {q q' : dK} {c : Int32} (h : q'.2.2 = q.2.2) : Int32.toInt (txN q' c) = Int32.toInt (txN q c) := by rw [← txN_r, ← txN_r, tx_e h]
theorem tx_eqK {q q' : dK} {c : Int32} (h : q'.2.2 = q.2.2) : Int32.toInt (txK q' c) = Int32.toInt (txK q c) := by rw [← txK_r, ← txK_r, tx_e h]
theorem ti_xor1 {x y : Int32} (h0 : 0 ≤ x.toInt) (h1 : x.toInt ≤ 1) (g0 : 0 ≤ y.toInt) (g1 : y.toInt ≤ 1) : 0 ≤ (x ^^^ y).toInt ∧ (x ^^^ y).toInt ≤ 1 := by
  obtain ⟨n, rfl, hn, -⟩ := ti_nI h0
  obtain ⟨m, rfl, hm, -⟩ := ti_nI g0
  have h : ∀ n : Nat, n < 2 → ∀ m : Nat, m < 2 → 0 ≤ (nI n ^^^ nI m).toInt ∧ (nI n ^^^ nI m).toInt ≤ 1 := by decide +kernel
  exact h n (by omega) m (by omega)
theorem ti_and63 (x : Int32) : 0 ≤ (x &&& 63).toInt ∧ (x &&& 63).toInt ≤ 63 := by
  have h := pk_and x (m := 63) 6 (by decide)
  rw [h, nI_toInt (by omega)]
  omega
theorem em_or {a b : Int32} (h0 : 0 ≤ a.toInt) (h1 : a.toInt ≤ 2000) (g0 : 0 ≤ b.toInt) (g1 : b.toInt ≤ 15) : 0 ≤ ((a <<< ((4 : Int32) &&& 31)) ||| b).toInt := by
  have e : (a <<< ((4 : Int32) &&& 31)).toInt = a.toInt * 2 ^ 4 := w_shl32 a _ (by decide) (by omega) (by omega)
  exact (ti_or (x := a <<< ((4 : Int32) &&& 31)) (y := b) 20 (by decide) (by omega) (by omega) g0 (by omega)).1
theorem em_op {a b : Int32} (h0 : 0 ≤ a.toInt) (h1 : a.toInt ≤ 2000) (g0 : 0 ≤ b.toInt) (g1 : b.toInt ≤ 12) : cOp ((a <<< ((4 : Int32) &&& 31)) ||| b) := by
  have e : (a <<< ((4 : Int32) &&& 31)).toInt = a.toInt * 2 ^ 4 := w_shl32 a _ (by decide) (by omega) (by omega)
  obtain ⟨n, hn1, hn, hn2⟩ := ti_nI (x := a <<< ((4 : Int32) &&& 31)) (by omega)
  obtain ⟨m, rfl, hm, hm2⟩ := ti_nI g0
  unfold cOp
  rw [hn1, nI_or]
  have hd : n = 2 ^ 4 * a.toInt.toNat := by omega
  have ho : n ||| m = 2 ^ 4 * a.toInt.toNat + m := by rw [hd]; exact (Nat.two_pow_add_eq_or_of_lt (by omega) _).symm
  rw [pk_andN (by omega) 4 (by decide), ho, Nat.mul_add_mod, Nat.mod_eq_of_lt (by omega), nI_toInt (by omega)]
  omega
theorem ok_X9_nextDraw (p1 : Int32) (hp0 : 0 ≤ Int32.toInt p1) (hp1 : Int32.toInt p1 ≤ 1000002) : dOk (zX9_nextDraw p1) (fun (o : Int32) => (0 ≤ Int32.toInt o ∧ Int32.toInt o ≤ 1000002)) := by
  unfold zX9_nextDraw
  have e0 : (Int32.toInt64 p1).toInt = Int32.toInt p1 := Int32.toInt_toInt64 p1
  have e1 : (Int32.toInt64 p1 * 1103 : Int64).toInt = Int32.toInt p1 * 1103 := tl_mul e0 (by decide) (by omega) (by omega)
  have e2 : ((Int32.toInt64 p1 * 1103 : Int64) + 12345 : Int64).toInt = Int32.toInt p1 * 1103 + 12345 := tl_add e1 (by decide) (by omega) (by omega)
  have e3 := tl_rem (b := 1000003) (B := 1000003) e2 (by decide) (by omega) (by omega)
  refine dOk_L (fun v1 ev => dOk_some ?_)
  rw [← ev] at e3
  have e4 : (Int64.toInt32 v1).toInt = v1.toInt := w_i32 (by omega) (by omega)
  show 0 ≤ Int32.toInt (Int64.toInt32 v1) ∧ Int32.toInt (Int64.toInt32 v1) ≤ 1000002
  omega
end
section
theorem ok_X8_pack_s2 (q : dK) (hT : TC q) : dOk (zX8_pack_s2 q) (fun (o : Int64 × dK) => (o.2 = q) ∧ (0 ≤ o.1.toInt)) := by
  have f2 : 0 ≤ Int32.toInt (q.1 2 2) ∧ Int32.toInt (q.1 2 2) ≤ 6 := rg_2_2 hT
  have f3 : 0 ≤ Int32.toInt (q.1 2 3) ∧ Int32.toInt (q.1 2 3) ≤ 16383 := rg_2_3 hT
  have f4 : 0 ≤ Int32.toInt (q.1 2 4) ∧ Int32.toInt (q.1 2 4) ≤ 1023 := rg_2_4 hT
  have e0 : (Int32.toInt64 (q.1 2 2)).toInt = Int32.toInt (q.1 2 2) := Int32.toInt_toInt64 _
  unfold zX8_pack_s2 zX8_pack_s2_8
  refine dFix_ok (fun (a : dK × Int64 × Int32) => a.1 = q ∧ 0 ≤ a.2.2.toInt ∧ a.2.2.toInt ≤ 6 ∧ 0 ≤ a.2.1.toInt ∧ a.2.1.toInt < pkB a.2.2.toInt) (fun (a : dK × Int64 × Int32) => (6 - a.2.2.toInt).toNat) ?_ _ ⟨rfl, by show 0 ≤ Int32.toInt 0; decide, by show Int32.toInt 0 ≤ 6; decide, by show 0 ≤ (Int32.toInt64 (q.1 2 2)).toInt; omega, ?_⟩ _ (dF_gt (by show (6 - Int32.toInt 0).toNat < 1000000000000; decide))
  · intro a ha k8 hk8
    obtain ⟨qa, x1, x3⟩ := a
    obtain ⟨a0, a1, a2, a3, a4⟩ := ha
    replace a0 : qa = q := a0
    replace a1 : 0 ≤ x3.toInt := a1
    replace a2 : x3.toInt ≤ 6 := a2
    replace a3 : 0 ≤ x1.toInt := a3
    replace a4 : x1.toInt < pkB x3.toInt := a4
    subst a0
    show dOk (zX8_pack_s2_8b (fun q x1 x3 => k8 (q, x1, x3)) qa x1 x3) _
    have hb : x1.toInt < 134217728 := pkB_le a4
    unfold zX8_pack_s2_8b
    refine dOk_le (by decide : Int32.toInt 6 = 6) rfl (fun c => ?_) (fun c => ?_)
    · refine dOk_L (fun v1 e1 => dOk_L (fun v2 e2 => dOk_some ⟨rfl, ?_⟩))
      show 0 ≤ v2.toInt
      rw [e2, e1]
      exact pk_end a3 hb f3.1 f3.2 f4.1 f4.2
    · refine dOk_G (dg_ok (by omega) (by omega)) (dOk_L (fun v4 e4 => dOk_L (fun v5 e5 => dOk_G (dg_ok (by omega) (by omega)) (dOk_L (fun v7 e7 => ?_)))))
      have g4 : 0 ≤ Int32.toInt v4 ∧ Int32.toInt v4 ≤ 7 := by rw [e4]; exact rg_3 hT _
      have g7 : 0 ≤ Int32.toInt v7 ∧ Int32.toInt v7 ≤ 1 := by rw [e7]; exact rg_4 hT _
      have es := pk_step (x := x1) (r := v4) (h := v7) a3 hb g4.1 g4.2 g7.1 g7.2
      rw [← e5] at es
      have t1 : Int32.toInt (x3 + 1) = x3.toInt + 1 := ti_add rfl (by decide) (by omega) (by omega)
      refine hk8 (qa, v5 ||| Int32.toInt64 v7, x3 + 1) ⟨rfl, ?_, ?_, ?_, ?_⟩ ?_
      · show 0 ≤ Int32.toInt (x3 + 1); omega
      · show Int32.toInt (x3 + 1) ≤ 6; omega
      · show 0 ≤ (v5 ||| Int32.toInt64 v7).toInt; omega
      · show (v5 ||| Int32.toInt64 v7).toInt < pkB (Int32.toInt (x3 + 1))
        rw [t1, es]
        exact pkB_s a1 (by omega) a4 g4.2 g7.2
      · show (6 - Int32.toInt (x3 + 1)).toNat < (6 - Int32.toInt x3).toNat
        omega
  · show (Int32.toInt64 (q.1 2 2)).toInt < pkB (Int32.toInt 0)
    rw [show Int32.toInt 0 = 0 by decide, e0]
    show Int32.toInt (q.1 2 2) < 8
    omega

theorem ok_X8_pack_s50 (q : dK) (hT : TC q) : dOk (zX8_pack_s50 q) (fun (o : Int64 × dK) => (o.2 = q) ∧ (0 ≤ o.1.toInt)) := by
  have f2 : 0 ≤ Int32.toInt (q.1 50 2) ∧ Int32.toInt (q.1 50 2) ≤ 6 := rg_50_2 hT
  have f3 : 0 ≤ Int32.toInt (q.1 50 3) ∧ Int32.toInt (q.1 50 3) ≤ 16383 := rg_50_3 hT
  have f4 : 0 ≤ Int32.toInt (q.1 50 4) ∧ Int32.toInt (q.1 50 4) ≤ 1023 := rg_50_4 hT
  have e0 : (Int32.toInt64 (q.1 50 2)).toInt = Int32.toInt (q.1 50 2) := Int32.toInt_toInt64 _
  unfold zX8_pack_s50 zX8_pack_s50_8
  refine dFix_ok (fun (a : dK × Int64 × Int32) => a.1 = q ∧ 0 ≤ a.2.2.toInt ∧ a.2.2.toInt ≤ 6 ∧ 0 ≤ a.2.1.toInt ∧ a.2.1.toInt < pkB a.2.2.toInt) (fun (a : dK × Int64 × Int32) => (6 - a.2.2.toInt).toNat) ?_ _ ⟨rfl, by show 0 ≤ Int32.toInt 0; decide, by show Int32.toInt 0 ≤ 6; decide, by show 0 ≤ (Int32.toInt64 (q.1 50 2)).toInt; omega, ?_⟩ _ (dF_gt (by show (6 - Int32.toInt 0).toNat < 1000000000000; decide))
  · intro a ha k8 hk8
    obtain ⟨qa, x1, x3⟩ := a
    obtain ⟨a0, a1, a2, a3, a4⟩ := ha
    replace a0 : qa = q := a0
    replace a1 : 0 ≤ x3.toInt := a1
    replace a2 : x3.toInt ≤ 6 := a2
    replace a3 : 0 ≤ x1.toInt := a3
    replace a4 : x1.toInt < pkB x3.toInt := a4
    subst a0
    show dOk (zX8_pack_s50_8b (fun q x1 x3 => k8 (q, x1, x3)) qa x1 x3) _
    have hb : x1.toInt < 134217728 := pkB_le a4
    unfold zX8_pack_s50_8b
    refine dOk_le (by decide : Int32.toInt 6 = 6) rfl (fun c => ?_) (fun c => ?_)
    · refine dOk_L (fun v1 e1 => dOk_L (fun v2 e2 => dOk_some ⟨rfl, ?_⟩))
      show 0 ≤ v2.toInt
      rw [e2, e1]
      exact pk_end a3 hb f3.1 f3.2 f4.1 f4.2
    · refine dOk_G (dg_ok (by omega) (by omega)) (dOk_L (fun v4 e4 => dOk_L (fun v5 e5 => dOk_G (dg_ok (by omega) (by omega)) (dOk_L (fun v7 e7 => ?_)))))
      have g4 : 0 ≤ Int32.toInt v4 ∧ Int32.toInt v4 ≤ 7 := by rw [e4]; exact rg_51 hT _
      have g7 : 0 ≤ Int32.toInt v7 ∧ Int32.toInt v7 ≤ 1 := by rw [e7]; exact rg_52 hT _
      have es := pk_step (x := x1) (r := v4) (h := v7) a3 hb g4.1 g4.2 g7.1 g7.2
      rw [← e5] at es
      have t1 : Int32.toInt (x3 + 1) = x3.toInt + 1 := ti_add rfl (by decide) (by omega) (by omega)
      refine hk8 (qa, v5 ||| Int32.toInt64 v7, x3 + 1) ⟨rfl, ?_, ?_, ?_, ?_⟩ ?_
      · show 0 ≤ Int32.toInt (x3 + 1); omega
      · show Int32.toInt (x3 + 1) ≤ 6; omega
      · show 0 ≤ (v5 ||| Int32.toInt64 v7).toInt; omega
      · show (v5 ||| Int32.toInt64 v7).toInt < pkB (Int32.toInt (x3 + 1))
        rw [t1, es]
        exact pkB_s a1 (by omega) a4 g4.2 g7.2
      · show (6 - Int32.toInt (x3 + 1)).toNat < (6 - Int32.toInt x3).toNat
        omega
  · show (Int32.toInt64 (q.1 50 2)).toInt < pkB (Int32.toInt 0)
    rw [show Int32.toInt 0 = 0 by decide, e0]
    show Int32.toInt (q.1 50 2) < 8
    omega

theorem ok_X8_pack_s57 (q : dK) (hT : TC q) : dOk (zX8_pack_s57 q) (fun (o : Int64 × dK) => (o.2 = q) ∧ (0 ≤ o.1.toInt)) := by
  have f2 : 0 ≤ Int32.toInt (q.1 57 2) ∧ Int32.toInt (q.1 57 2) ≤ 6 := rg_57_2 hT
  have f3 : 0 ≤ Int32.toInt (q.1 57 3) ∧ Int32.toInt (q.1 57 3) ≤ 16383 := rg_57_3 hT
  have f4 : 0 ≤ Int32.toInt (q.1 57 4) ∧ Int32.toInt (q.1 57 4) ≤ 1023 := rg_57_4 hT
  have e0 : (Int32.toInt64 (q.1 57 2)).toInt = Int32.toInt (q.1 57 2) := Int32.toInt_toInt64 _
  unfold zX8_pack_s57 zX8_pack_s57_8
  refine dFix_ok (fun (a : dK × Int64 × Int32) => a.1 = q ∧ 0 ≤ a.2.2.toInt ∧ a.2.2.toInt ≤ 6 ∧ 0 ≤ a.2.1.toInt ∧ a.2.1.toInt < pkB a.2.2.toInt) (fun (a : dK × Int64 × Int32) => (6 - a.2.2.toInt).toNat) ?_ _ ⟨rfl, by show 0 ≤ Int32.toInt 0; decide, by show Int32.toInt 0 ≤ 6; decide, by show 0 ≤ (Int32.toInt64 (q.1 57 2)).toInt; omega, ?_⟩ _ (dF_gt (by show (6 - Int32.toInt 0).toNat < 1000000000000; decide))
  · intro a ha k8 hk8
    obtain ⟨qa, x1, x3⟩ := a
    obtain ⟨a0, a1, a2, a3, a4⟩ := ha
    replace a0 : qa = q := a0
    replace a1 : 0 ≤ x3.toInt := a1
    replace a2 : x3.toInt ≤ 6 := a2
    replace a3 : 0 ≤ x1.toInt := a3
    replace a4 : x1.toInt < pkB x3.toInt := a4
    subst a0
    show dOk (zX8_pack_s57_8b (fun q x1 x3 => k8 (q, x1, x3)) qa x1 x3) _
    have hb : x1.toInt < 134217728 := pkB_le a4
    unfold zX8_pack_s57_8b
    refine dOk_le (by decide : Int32.toInt 6 = 6) rfl (fun c => ?_) (fun c => ?_)
    · refine dOk_L (fun v1 e1 => dOk_L (fun v2 e2 => dOk_some ⟨rfl, ?_⟩))
      show 0 ≤ v2.toInt
      rw [e2, e1]
      exact pk_end a3 hb f3.1 f3.2 f4.1 f4.2
    · refine dOk_G (dg_ok (by omega) (by omega)) (dOk_L (fun v4 e4 => dOk_L (fun v5 e5 => dOk_G (dg_ok (by omega) (by omega)) (dOk_L (fun v7 e7 => ?_)))))
      have g4 : 0 ≤ Int32.toInt v4 ∧ Int32.toInt v4 ≤ 7 := by rw [e4]; exact rg_58 hT _
      have g7 : 0 ≤ Int32.toInt v7 ∧ Int32.toInt v7 ≤ 1 := by rw [e7]; exact rg_59 hT _
      have es := pk_step (x := x1) (r := v4) (h := v7) a3 hb g4.1 g4.2 g7.1 g7.2
      rw [← e5] at es
      have t1 : Int32.toInt (x3 + 1) = x3.toInt + 1 := ti_add rfl (by decide) (by omega) (by omega)
      refine hk8 (qa, v5 ||| Int32.toInt64 v7, x3 + 1) ⟨rfl, ?_, ?_, ?_, ?_⟩ ?_
      · show 0 ≤ Int32.toInt (x3 + 1); omega
      · show Int32.toInt (x3 + 1) ≤ 6; omega
      · show 0 ≤ (v5 ||| Int32.toInt64 v7).toInt; omega
      · show (v5 ||| Int32.toInt64 v7).toInt < pkB (Int32.toInt (x3 + 1))
        rw [t1, es]
        exact pkB_s a1 (by omega) a4 g4.2 g7.2
      · show (6 - Int32.toInt (x3 + 1)).toNat < (6 - Int32.toInt x3).toNat
        omega
  · show (Int32.toInt64 (q.1 57 2)).toInt < pkB (Int32.toInt 0)
    rw [show Int32.toInt 0 = 0 by decide, e0]
    show Int32.toInt (q.1 57 2) < 8
    omega

theorem ok_X8_unpack_s2 (q : dK) (p1 : Int64) (hT : TC q) (hp0 : 0 ≤ p1.toInt) : dOk (zX8_unpack_s2 q p1) (fun (o : dK) => (TC o) ∧ (cFr [3, 4] [(2, 2), (2, 3), (2, 4)] q o)) := by
  have hmx := p1.toInt_lt
  unfold zX8_unpack_s2
  refine dOk_L (fun q1 e1 => ?_)
  have hT1 : TC q1 := by rw [e1]; exact st_2_4 hT (show (0 : Int) ≤ Int32.toInt (Int64.toInt32 (p1 &&& 1023)) from (um_10 p1).1) (show Int32.toInt (Int64.toInt32 (p1 &&& 1023)) ≤ (1023 : Int) from (um_10 p1).2)
  have hF1 : cFr [3, 4] [(2, 2), (2, 3), (2, 4)] q q1 := by rw [e1]; exact cFr.rf.f (by decide)
  refine dOk_L (fun v2 e2 => dOk_L (fun q3 e3 => ?_))
  have hT3 : TC q3 := by rw [e3, e2]; exact st_2_3 hT1 (show (0 : Int) ≤ Int32.toInt (Int64.toInt32 (_ &&& 16383)) from (um_14 _).1) (show Int32.toInt (Int64.toInt32 (_ &&& 16383)) ≤ (16383 : Int) from (um_14 _).2)
  have hF3 : cFr [3, 4] [(2, 2), (2, 3), (2, 4)] q q3 := by rw [e3]; exact hF1.f (by decide)
  have s24 := us_24 p1
  unfold zX8_unpack_s2_31
  refine dFix_ok (fun (a : dK × Int64 × Int32) => TC a.1 ∧ cFr [3, 4] [(2, 2), (2, 3), (2, 4)] q a.1 ∧ -1 ≤ a.2.2.toInt ∧ a.2.2.toInt ≤ 5 ∧ 0 ≤ a.2.1.toInt ∧ a.2.1.toInt < upB a.2.2.toInt) (fun (a : dK × Int64 × Int32) => (a.2.2.toInt + 1).toNat) ?_ _ ⟨hT3, hF3, by show -1 ≤ Int32.toInt 5; decide, by show Int32.toInt 5 ≤ 5; decide, ?_, ?_⟩ _ (dF_gt (by show (Int32.toInt 5 + 1).toNat < 1000000000000; decide))
  · clear s24
    intro a ha k31 hk31
    obtain ⟨qa, x3, x5⟩ := a
    obtain ⟨a0, a1, a2, a3, a4, a5⟩ := ha
    replace a0 : TC qa := a0
    replace a1 : cFr [3, 4] [(2, 2), (2, 3), (2, 4)] q qa := a1
    replace a2 : -1 ≤ x5.toInt := a2
    replace a3 : x5.toInt ≤ 5 := a3
    replace a4 : 0 ≤ x3.toInt := a4
    replace a5 : x3.toInt < upB x5.toInt := a5
    show dOk (zX8_unpack_s2_31b (fun q x3 x5 => k31 (q, x3, x5)) qa x3 x5) _
    unfold zX8_unpack_s2_31b
    refine dOk_lt rfl (by decide : Int32.toInt 0 = 0) (fun c => ?_) (fun c => ?_)
    · have hb : x3.toInt < 32768 := upB_m (by omega) a5
      have e6 : (Int64.toInt32 x3).toInt = x3.toInt := w_i32 (by omega) (by omega)
      have hm := mn_k (b := Int64.toInt32 x3) (show Int32.toInt 6 = 6 by decide)
      refine dOk_L (fun q8 e8 => dOk_some ⟨?_, ?_⟩)
      · show TC q8
        rw [e8]; exact st_2_2 a0 (show (0 : Int) ≤ Int32.toInt (mnI 6 (Int64.toInt32 x3)) by omega) (show Int32.toInt (mnI 6 (Int64.toInt32 x3)) ≤ (6 : Int) by omega)
      · show cFr [3, 4] [(2, 2), (2, 3), (2, 4)] q q8
        rw [e8]; exact a1.f (by decide)
    · refine dOk_G (dg_ok (by omega) (by omega)) (dOk_L (fun q5 e5 => dOk_G (dg_ok (by omega) (by omega)) (dOk_L (fun q7 e7 => ?_))))
      have hT5 : TC q5 := by rw [e5]; exact st_4 a0 (show (0 : Int) ≤ Int32.toInt (Int64.toInt32 (x3 &&& 1)) from (um_1 x3).1) (show Int32.toInt (Int64.toInt32 (x3 &&& 1)) ≤ (1 : Int) from (um_1 x3).2)
      have hT7 : TC q7 := by rw [e7]; exact st_3 hT5 (show (0 : Int) ≤ Int32.toInt (Int64.toInt32 (_ &&& 7)) from (um_7 _).1) (show Int32.toInt (Int64.toInt32 (_ &&& 7)) ≤ (7 : Int) from (um_7 _).2)
      have t1 : Int32.toInt (x5 + (-1)) = x5.toInt + (-1) := ti_add rfl (by decide) (by omega) (by omega)
      have s4 := us_4 x3
      refine hk31 (q7, x3 >>> (Int32.toInt64 (4 : Int32) &&& 63), x5 + (-1)) ⟨hT7, ?_, ?_, ?_, ?_, ?_⟩ ?_
      · show cFr [3, 4] [(2, 2), (2, 3), (2, 4)] q q7
        rw [e7, e5]; exact (a1.i (by decide)).i (by decide)
      · show -1 ≤ Int32.toInt (x5 + (-1)); omega
      · show Int32.toInt (x5 + (-1)) ≤ 5; omega
      · show 0 ≤ (x3 >>> (Int32.toInt64 (4 : Int32) &&& 63)).toInt
        rw [s4]; omega
      · show (x3 >>> (Int32.toInt64 (4 : Int32) &&& 63)).toInt < upB (Int32.toInt (x5 + (-1)))
        rw [s4, t1]
        exact upB_s (by omega) a3 a5
      · show (Int32.toInt (x5 + (-1)) + 1).toNat < (Int32.toInt x5 + 1).toNat
        omega
  · show 0 ≤ (p1 >>> (Int32.toInt64 (24 : Int32) &&& 63)).toInt
    rw [s24]; omega
  · show (p1 >>> (Int32.toInt64 (24 : Int32) &&& 63)).toInt < upB (Int32.toInt 5)
    rw [s24, show Int32.toInt 5 = 5 by decide]
    show p1.toInt / 2 ^ 24 < 549755813888
    omega

theorem ok_X8_unpack_s15 (q : dK) (p1 : Int64) (hT : TC q) (hp0 : 0 ≤ p1.toInt) : dOk (zX8_unpack_s15 q p1) (fun (o : dK) => (TC o) ∧ (cFr [16, 17] [(15, 2), (15, 3), (15, 4)] q o)) := by
  have hmx := p1.toInt_lt
  unfold zX8_unpack_s15
  refine dOk_L (fun q1 e1 => ?_)
  have hT1 : TC q1 := by rw [e1]; exact st_15_4 hT (show (0 : Int) ≤ Int32.toInt (Int64.toInt32 (p1 &&& 1023)) from (um_10 p1).1) (show Int32.toInt (Int64.toInt32 (p1 &&& 1023)) ≤ (1023 : Int) from (um_10 p1).2)
  have hF1 : cFr [16, 17] [(15, 2), (15, 3), (15, 4)] q q1 := by rw [e1]; exact cFr.rf.f (by decide)
  refine dOk_L (fun v2 e2 => dOk_L (fun q3 e3 => ?_))
  have hT3 : TC q3 := by rw [e3, e2]; exact st_15_3 hT1 (show (0 : Int) ≤ Int32.toInt (Int64.toInt32 (_ &&& 16383)) from (um_14 _).1) (show Int32.toInt (Int64.toInt32 (_ &&& 16383)) ≤ (16383 : Int) from (um_14 _).2)
  have hF3 : cFr [16, 17] [(15, 2), (15, 3), (15, 4)] q q3 := by rw [e3]; exact hF1.f (by decide)
  have s24 := us_24 p1
  unfold zX8_unpack_s15_31
  refine dFix_ok (fun (a : dK × Int64 × Int32) => TC a.1 ∧ cFr [16, 17] [(15, 2), (15, 3), (15, 4)] q a.1 ∧ -1 ≤ a.2.2.toInt ∧ a.2.2.toInt ≤ 5 ∧ 0 ≤ a.2.1.toInt ∧ a.2.1.toInt < upB a.2.2.toInt) (fun (a : dK × Int64 × Int32) => (a.2.2.toInt + 1).toNat) ?_ _ ⟨hT3, hF3, by show -1 ≤ Int32.toInt 5; decide, by show Int32.toInt 5 ≤ 5; decide, ?_, ?_⟩ _ (dF_gt (by show (Int32.toInt 5 + 1).toNat < 1000000000000; decide))
  · clear s24
    intro a ha k31 hk31
    obtain ⟨qa, x3, x5⟩ := a
    obtain ⟨a0, a1, a2, a3, a4, a5⟩ := ha
    replace a0 : TC qa := a0
    replace a1 : cFr [16, 17] [(15, 2), (15, 3), (15, 4)] q qa := a1
    replace a2 : -1 ≤ x5.toInt := a2
    replace a3 : x5.toInt ≤ 5 := a3
    replace a4 : 0 ≤ x3.toInt := a4
    replace a5 : x3.toInt < upB x5.toInt := a5
    show dOk (zX8_unpack_s15_31b (fun q x3 x5 => k31 (q, x3, x5)) qa x3 x5) _
    unfold zX8_unpack_s15_31b
    refine dOk_lt rfl (by decide : Int32.toInt 0 = 0) (fun c => ?_) (fun c => ?_)
    · have hb : x3.toInt < 32768 := upB_m (by omega) a5
      have e6 : (Int64.toInt32 x3).toInt = x3.toInt := w_i32 (by omega) (by omega)
      have hm := mn_k (b := Int64.toInt32 x3) (show Int32.toInt 6 = 6 by decide)
      refine dOk_L (fun q8 e8 => dOk_some ⟨?_, ?_⟩)
      · show TC q8
        rw [e8]; exact st_15_2 a0 (show (0 : Int) ≤ Int32.toInt (mnI 6 (Int64.toInt32 x3)) by omega) (show Int32.toInt (mnI 6 (Int64.toInt32 x3)) ≤ (6 : Int) by omega)
      · show cFr [16, 17] [(15, 2), (15, 3), (15, 4)] q q8
        rw [e8]; exact a1.f (by decide)
    · refine dOk_G (dg_ok (by omega) (by omega)) (dOk_L (fun q5 e5 => dOk_G (dg_ok (by omega) (by omega)) (dOk_L (fun q7 e7 => ?_))))
      have hT5 : TC q5 := by rw [e5]; exact st_17 a0 (show (0 : Int) ≤ Int32.toInt (Int64.toInt32 (x3 &&& 1)) from (um_1 x3).1) (show Int32.toInt (Int64.toInt32 (x3 &&& 1)) ≤ (1 : Int) from (um_1 x3).2)
      have hT7 : TC q7 := by rw [e7]; exact st_16 hT5 (show (0 : Int) ≤ Int32.toInt (Int64.toInt32 (_ &&& 7)) from (um_7 _).1) (show Int32.toInt (Int64.toInt32 (_ &&& 7)) ≤ (7 : Int) from (um_7 _).2)
      have t1 : Int32.toInt (x5 + (-1)) = x5.toInt + (-1) := ti_add rfl (by decide) (by omega) (by omega)
      have s4 := us_4 x3
      refine hk31 (q7, x3 >>> (Int32.toInt64 (4 : Int32) &&& 63), x5 + (-1)) ⟨hT7, ?_, ?_, ?_, ?_, ?_⟩ ?_
      · show cFr [16, 17] [(15, 2), (15, 3), (15, 4)] q q7
        rw [e7, e5]; exact (a1.i (by decide)).i (by decide)
      · show -1 ≤ Int32.toInt (x5 + (-1)); omega
      · show Int32.toInt (x5 + (-1)) ≤ 5; omega
      · show 0 ≤ (x3 >>> (Int32.toInt64 (4 : Int32) &&& 63)).toInt
        rw [s4]; omega
      · show (x3 >>> (Int32.toInt64 (4 : Int32) &&& 63)).toInt < upB (Int32.toInt (x5 + (-1)))
        rw [s4, t1]
        exact upB_s (by omega) a3 a5
      · show (Int32.toInt (x5 + (-1)) + 1).toNat < (Int32.toInt x5 + 1).toNat
        omega
  · show 0 ≤ (p1 >>> (Int32.toInt64 (24 : Int32) &&& 63)).toInt
    rw [s24]; omega
  · show (p1 >>> (Int32.toInt64 (24 : Int32) &&& 63)).toInt < upB (Int32.toInt 5)
    rw [s24, show Int32.toInt 5 = 5 by decide]
    show p1.toInt / 2 ^ 24 < 549755813888
    omega

theorem ok_X8_unpack_s50 (q : dK) (p1 : Int64) (hT : TC q) (hp0 : 0 ≤ p1.toInt) : dOk (zX8_unpack_s50 q p1) (fun (o : dK) => (TC o) ∧ (cFr [51, 52] [(50, 2), (50, 3), (50, 4)] q o)) := by
  have hmx := p1.toInt_lt
  unfold zX8_unpack_s50
  refine dOk_L (fun q1 e1 => ?_)
  have hT1 : TC q1 := by rw [e1]; exact st_50_4 hT (show (0 : Int) ≤ Int32.toInt (Int64.toInt32 (p1 &&& 1023)) from (um_10 p1).1) (show Int32.toInt (Int64.toInt32 (p1 &&& 1023)) ≤ (1023 : Int) from (um_10 p1).2)
  have hF1 : cFr [51, 52] [(50, 2), (50, 3), (50, 4)] q q1 := by rw [e1]; exact cFr.rf.f (by decide)
  refine dOk_L (fun v2 e2 => dOk_L (fun q3 e3 => ?_))
  have hT3 : TC q3 := by rw [e3, e2]; exact st_50_3 hT1 (show (0 : Int) ≤ Int32.toInt (Int64.toInt32 (_ &&& 16383)) from (um_14 _).1) (show Int32.toInt (Int64.toInt32 (_ &&& 16383)) ≤ (16383 : Int) from (um_14 _).2)
  have hF3 : cFr [51, 52] [(50, 2), (50, 3), (50, 4)] q q3 := by rw [e3]; exact hF1.f (by decide)
  have s24 := us_24 p1
  unfold zX8_unpack_s50_31
  refine dFix_ok (fun (a : dK × Int64 × Int32) => TC a.1 ∧ cFr [51, 52] [(50, 2), (50, 3), (50, 4)] q a.1 ∧ -1 ≤ a.2.2.toInt ∧ a.2.2.toInt ≤ 5 ∧ 0 ≤ a.2.1.toInt ∧ a.2.1.toInt < upB a.2.2.toInt) (fun (a : dK × Int64 × Int32) => (a.2.2.toInt + 1).toNat) ?_ _ ⟨hT3, hF3, by show -1 ≤ Int32.toInt 5; decide, by show Int32.toInt 5 ≤ 5; decide, ?_, ?_⟩ _ (dF_gt (by show (Int32.toInt 5 + 1).toNat < 1000000000000; decide))
  · clear s24
    intro a ha k31 hk31
    obtain ⟨qa, x3, x5⟩ := a
    obtain ⟨a0, a1, a2, a3, a4, a5⟩ := ha
    replace a0 : TC qa := a0
    replace a1 : cFr [51, 52] [(50, 2), (50, 3), (50, 4)] q qa := a1
    replace a2 : -1 ≤ x5.toInt := a2
    replace a3 : x5.toInt ≤ 5 := a3
    replace a4 : 0 ≤ x3.toInt := a4
    replace a5 : x3.toInt < upB x5.toInt := a5
    show dOk (zX8_unpack_s50_31b (fun q x3 x5 => k31 (q, x3, x5)) qa x3 x5) _
    unfold zX8_unpack_s50_31b
    refine dOk_lt rfl (by decide : Int32.toInt 0 = 0) (fun c => ?_) (fun c => ?_)
    · have hb : x3.toInt < 32768 := upB_m (by omega) a5
      have e6 : (Int64.toInt32 x3).toInt = x3.toInt := w_i32 (by omega) (by omega)
      have hm := mn_k (b := Int64.toInt32 x3) (show Int32.toInt 6 = 6 by decide)
      refine dOk_L (fun q8 e8 => dOk_some ⟨?_, ?_⟩)
      · show TC q8
        rw [e8]; exact st_50_2 a0 (show (0 : Int) ≤ Int32.toInt (mnI 6 (Int64.toInt32 x3)) by omega) (show Int32.toInt (mnI 6 (Int64.toInt32 x3)) ≤ (6 : Int) by omega)
      · show cFr [51, 52] [(50, 2), (50, 3), (50, 4)] q q8
        rw [e8]; exact a1.f (by decide)
    · refine dOk_G (dg_ok (by omega) (by omega)) (dOk_L (fun q5 e5 => dOk_G (dg_ok (by omega) (by omega)) (dOk_L (fun q7 e7 => ?_))))
      have hT5 : TC q5 := by rw [e5]; exact st_52 a0 (show (0 : Int) ≤ Int32.toInt (Int64.toInt32 (x3 &&& 1)) from (um_1 x3).1) (show Int32.toInt (Int64.toInt32 (x3 &&& 1)) ≤ (1 : Int) from (um_1 x3).2)
      have hT7 : TC q7 := by rw [e7]; exact st_51 hT5 (show (0 : Int) ≤ Int32.toInt (Int64.toInt32 (_ &&& 7)) from (um_7 _).1) (show Int32.toInt (Int64.toInt32 (_ &&& 7)) ≤ (7 : Int) from (um_7 _).2)
      have t1 : Int32.toInt (x5 + (-1)) = x5.toInt + (-1) := ti_add rfl (by decide) (by omega) (by omega)
      have s4 := us_4 x3
      refine hk31 (q7, x3 >>> (Int32.toInt64 (4 : Int32) &&& 63), x5 + (-1)) ⟨hT7, ?_, ?_, ?_, ?_, ?_⟩ ?_
      · show cFr [51, 52] [(50, 2), (50, 3), (50, 4)] q q7
        rw [e7, e5]; exact (a1.i (by decide)).i (by decide)
      · show -1 ≤ Int32.toInt (x5 + (-1)); omega
      · show Int32.toInt (x5 + (-1)) ≤ 5; omega
      · show 0 ≤ (x3 >>> (Int32.toInt64 (4 : Int32) &&& 63)).toInt
        rw [s4]; omega
      · show (x3 >>> (Int32.toInt64 (4 : Int32) &&& 63)).toInt < upB (Int32.toInt (x5 + (-1)))
        rw [s4, t1]
        exact upB_s (by omega) a3 a5
      · show (Int32.toInt (x5 + (-1)) + 1).toNat < (Int32.toInt x5 + 1).toNat
        omega
  · show 0 ≤ (p1 >>> (Int32.toInt64 (24 : Int32) &&& 63)).toInt
    rw [s24]; omega
  · show (p1 >>> (Int32.toInt64 (24 : Int32) &&& 63)).toInt < upB (Int32.toInt 5)
    rw [s24, show Int32.toInt 5 = 5 by decide]
    show p1.toInt / 2 ^ 24 < 549755813888
    omega

theorem ok_X8_unpack_s57 (q : dK) (p1 : Int64) (hT : TC q) (hp0 : 0 ≤ p1.toInt) : dOk (zX8_unpack_s57 q p1) (fun (o : dK) => (TC o) ∧ (cFr [58, 59] [(57, 2), (57, 3), (57, 4)] q o)) := by
  have hmx := p1.toInt_lt
  unfold zX8_unpack_s57
  refine dOk_L (fun q1 e1 => ?_)
  have hT1 : TC q1 := by rw [e1]; exact st_57_4 hT (show (0 : Int) ≤ Int32.toInt (Int64.toInt32 (p1 &&& 1023)) from (um_10 p1).1) (show Int32.toInt (Int64.toInt32 (p1 &&& 1023)) ≤ (1023 : Int) from (um_10 p1).2)
  have hF1 : cFr [58, 59] [(57, 2), (57, 3), (57, 4)] q q1 := by rw [e1]; exact cFr.rf.f (by decide)
  refine dOk_L (fun v2 e2 => dOk_L (fun q3 e3 => ?_))
  have hT3 : TC q3 := by rw [e3, e2]; exact st_57_3 hT1 (show (0 : Int) ≤ Int32.toInt (Int64.toInt32 (_ &&& 16383)) from (um_14 _).1) (show Int32.toInt (Int64.toInt32 (_ &&& 16383)) ≤ (16383 : Int) from (um_14 _).2)
  have hF3 : cFr [58, 59] [(57, 2), (57, 3), (57, 4)] q q3 := by rw [e3]; exact hF1.f (by decide)
  have s24 := us_24 p1
  unfold zX8_unpack_s57_31
  refine dFix_ok (fun (a : dK × Int64 × Int32) => TC a.1 ∧ cFr [58, 59] [(57, 2), (57, 3), (57, 4)] q a.1 ∧ -1 ≤ a.2.2.toInt ∧ a.2.2.toInt ≤ 5 ∧ 0 ≤ a.2.1.toInt ∧ a.2.1.toInt < upB a.2.2.toInt) (fun (a : dK × Int64 × Int32) => (a.2.2.toInt + 1).toNat) ?_ _ ⟨hT3, hF3, by show -1 ≤ Int32.toInt 5; decide, by show Int32.toInt 5 ≤ 5; decide, ?_, ?_⟩ _ (dF_gt (by show (Int32.toInt 5 + 1).toNat < 1000000000000; decide))
  · clear s24
    intro a ha k31 hk31
    obtain ⟨qa, x3, x5⟩ := a
    obtain ⟨a0, a1, a2, a3, a4, a5⟩ := ha
    replace a0 : TC qa := a0
    replace a1 : cFr [58, 59] [(57, 2), (57, 3), (57, 4)] q qa := a1
    replace a2 : -1 ≤ x5.toInt := a2
    replace a3 : x5.toInt ≤ 5 := a3
    replace a4 : 0 ≤ x3.toInt := a4
    replace a5 : x3.toInt < upB x5.toInt := a5
    show dOk (zX8_unpack_s57_31b (fun q x3 x5 => k31 (q, x3, x5)) qa x3 x5) _
    unfold zX8_unpack_s57_31b
    refine dOk_lt rfl (by decide : Int32.toInt 0 = 0) (fun c => ?_) (fun c => ?_)
    · have hb : x3.toInt < 32768 := upB_m (by omega) a5
      have e6 : (Int64.toInt32 x3).toInt = x3.toInt := w_i32 (by omega) (by omega)
      have hm := mn_k (b := Int64.toInt32 x3) (show Int32.toInt 6 = 6 by decide)
      refine dOk_L (fun q8 e8 => dOk_some ⟨?_, ?_⟩)
      · show TC q8
        rw [e8]; exact st_57_2 a0 (show (0 : Int) ≤ Int32.toInt (mnI 6 (Int64.toInt32 x3)) by omega) (show Int32.toInt (mnI 6 (Int64.toInt32 x3)) ≤ (6 : Int) by omega)
      · show cFr [58, 59] [(57, 2), (57, 3), (57, 4)] q q8
        rw [e8]; exact a1.f (by decide)
    · refine dOk_G (dg_ok (by omega) (by omega)) (dOk_L (fun q5 e5 => dOk_G (dg_ok (by omega) (by omega)) (dOk_L (fun q7 e7 => ?_))))
      have hT5 : TC q5 := by rw [e5]; exact st_59 a0 (show (0 : Int) ≤ Int32.toInt (Int64.toInt32 (x3 &&& 1)) from (um_1 x3).1) (show Int32.toInt (Int64.toInt32 (x3 &&& 1)) ≤ (1 : Int) from (um_1 x3).2)
      have hT7 : TC q7 := by rw [e7]; exact st_58 hT5 (show (0 : Int) ≤ Int32.toInt (Int64.toInt32 (_ &&& 7)) from (um_7 _).1) (show Int32.toInt (Int64.toInt32 (_ &&& 7)) ≤ (7 : Int) from (um_7 _).2)
      have t1 : Int32.toInt (x5 + (-1)) = x5.toInt + (-1) := ti_add rfl (by decide) (by omega) (by omega)
      have s4 := us_4 x3
      refine hk31 (q7, x3 >>> (Int32.toInt64 (4 : Int32) &&& 63), x5 + (-1)) ⟨hT7, ?_, ?_, ?_, ?_, ?_⟩ ?_
      · show cFr [58, 59] [(57, 2), (57, 3), (57, 4)] q q7
        rw [e7, e5]; exact (a1.i (by decide)).i (by decide)
      · show -1 ≤ Int32.toInt (x5 + (-1)); omega
      · show Int32.toInt (x5 + (-1)) ≤ 5; omega
      · show 0 ≤ (x3 >>> (Int32.toInt64 (4 : Int32) &&& 63)).toInt
        rw [s4]; omega
      · show (x3 >>> (Int32.toInt64 (4 : Int32) &&& 63)).toInt < upB (Int32.toInt (x5 + (-1)))
        rw [s4, t1]
        exact upB_s (by omega) a3 a5
      · show (Int32.toInt (x5 + (-1)) + 1).toNat < (Int32.toInt x5 + 1).toNat
        omega
  · show 0 ≤ (p1 >>> (Int32.toInt64 (24 : Int32) &&& 63)).toInt
    rw [s24]; omega
  · show (p1 >>> (Int32.toInt64 (24 : Int32) &&& 63)).toInt < upB (Int32.toInt 5)
    rw [s24, show Int32.toInt 5 = 5 by decide]
    show p1.toInt / 2 ^ 24 < 549755813888
    omega
end
section
/-! the reader's step: digits are digits -/
def tkV (x : Int32) : Int32 := if x < 97 then (if x < 48 then 3 else if 57 < x then 3 else 2) else if 122 < x then (if x < 48 then 3 else if 57 < x then 3 else 2) else 1
theorem ok_X4_tokenOf2 (p1 : Int32) : zX4_tokenOf p1 = some (tkV p1) := by
  unfold zX4_tokenOf zX4_tokenOf_14 zX4_tokenOf_30 zX4_tokenOf_31 tkV
  by_cases c1 : p1 < 97
  · rw [if_pos c1, if_pos c1]
    by_cases c2 : p1 < 48
    · rw [if_pos c2, if_pos c2]
    · rw [if_neg c2, if_neg c2]
      by_cases c3 : (57 : Int32) < p1
      · rw [if_pos c3, if_pos c3]
      · rw [if_neg c3, if_neg c3]
  · rw [if_neg c1, if_neg c1]
    by_cases c0 : (122 : Int32) < p1
    · rw [if_pos c0, if_pos c0]
      by_cases c2 : p1 < 48
      · rw [if_pos c2, if_pos c2]
      · rw [if_neg c2, if_neg c2]
        by_cases c3 : (57 : Int32) < p1
        · rw [if_pos c3, if_pos c3]
        · rw [if_neg c3, if_neg c3]
    · rw [if_neg c0, if_neg c0]
theorem tkV_2 {x : Int32} (h : Int32.toInt (tkV x) = 2) : 48 ≤ x.toInt ∧ x.toInt ≤ 57 := by
  have t1 : Int32.toInt 1 = 1 := by decide
  have t3 : Int32.toInt 3 = 3 := by decide
  have t48 : Int32.toInt 48 = 48 := by decide
  have t57 : Int32.toInt 57 = 57 := by decide
  have key : ¬ x < 48 → ¬ (57 : Int32) < x → 48 ≤ x.toInt ∧ x.toInt ≤ 57 := by
    intro a b
    rw [Int32.lt_iff_toInt_lt] at a b
    omega
  unfold tkV at h
  by_cases c1 : x < 97
  · rw [if_pos c1] at h
    by_cases c2 : x < 48
    · rw [if_pos c2] at h; omega
    · rw [if_neg c2] at h
      by_cases c3 : (57 : Int32) < x
      · rw [if_pos c3] at h; omega
      · exact key c2 c3
  · rw [if_neg c1] at h
    by_cases c0 : (122 : Int32) < x
    · rw [if_pos c0] at h
      by_cases c2 : x < 48
      · rw [if_pos c2] at h; omega
      · rw [if_neg c2] at h
        by_cases c3 : (57 : Int32) < x
        · rw [if_pos c3] at h; omega
        · exact key c2 c3
    · rw [if_neg c0] at h; omega
def digs (q : dK) : Prop := Int32.toInt (q.1 24 4) = 2 → ∀ j : Nat, Int32.toInt (q.1 24 5) ≤ (j : Int) → (j : Int) < Int32.toInt (q.1 24 6) → 48 ≤ Int32.toInt (q.1 46 j) ∧ Int32.toInt (q.1 46 j) ≤ 57
theorem ok_X4_step_s24 (q : dK) (hT : TC q) (hp0 : ¬ Int32.toInt (q.1 24 0) = 0) : dOk (zX4_step_s24 q) (fun (o : dK) => (TC o) ∧ (cFr [] [(24, 4), (24, 5), (24, 6), (24, 7)] q o)) := by
  have h162 : ∀ qb : dK, TC qb → cFr [] [(24, 4), (24, 5), (24, 6), (24, 7)] q qb → digs qb → dOk (zX4_step_s24_162 qb) (fun (o : dK) => (TC o) ∧ (cFr [] [(24, 4), (24, 5), (24, 6), (24, 7)] q o)) := by
    intro qb hTb hFb hdig
    have b5 : 0 ≤ Int32.toInt (qb.1 24 5) ∧ Int32.toInt (qb.1 24 5) ≤ 400 := rg_24_5 hTb
    have b6 : 0 ≤ Int32.toInt (qb.1 24 6) ∧ Int32.toInt (qb.1 24 6) ≤ 400 := rg_24_6 hTb
    unfold zX4_step_s24_162 zX4_step_s24_167
    refine dFix_ok (fun (a : dK × Int32) => TC a.1 ∧ cFr [] [(24, 7)] qb a.1 ∧ Int32.toInt (qb.1 24 5) ≤ Int32.toInt a.2 ∧ Int32.toInt a.2 ≤ 400) (fun (a : dK × Int32) => (400 - Int32.toInt a.2).toNat) ?_ _ ⟨hTb, cFr.rf, Int.le_refl _, b5.2⟩ _ (dF_gt (by show (400 - Int32.toInt (qb.1 24 5)).toNat < 1000000000000; omega))
    intro a ha k hk
    obtain ⟨qa, x1⟩ := a
    obtain ⟨hTa, hFa, a1, a2⟩ := ha
    replace hTa : TC qa := hTa
    replace hFa : cFr [] [(24, 7)] qb qa := hFa
    replace a1 : Int32.toInt (qb.1 24 5) ≤ Int32.toInt x1 := a1
    replace a2 : Int32.toInt x1 ≤ 400 := a2
    have w6 : qa.1 24 6 = qb.1 24 6 := hFa.1 24 6 (by decide) (by decide)
    have w4 : qa.1 24 4 = qb.1 24 4 := hFa.1 24 4 (by decide) (by decide)
    have w0 : qa.1 24 0 = q.1 24 0 := (hFa.1 24 0 (by decide) (by decide)).trans (hFb.1 24 0 (by decide) (by decide))
    have w46 : qa.1 46 = qb.1 46 := hFa.row 46 (by decide) (by decide)
    have hFq : cFr [] [(24, 4), (24, 5), (24, 6), (24, 7)] q qa := hFb.t hFa (by decide) (by decide)
    show dOk (zX4_step_s24_167b (fun q x1 => k (q, x1)) qa x1) _
    unfold zX4_step_s24_167b zX4_step_s24_216
    refine dOk_le rfl rfl (fun _ => dOk_some ⟨hTa, hFq⟩) (fun c => ?_)
    rw [w6] at c
    refine dOk_eq rfl (by decide : Int32.toInt 2 = 2) (fun _ c2 => ?_) (fun _ _ => dOk_some ⟨hTa, hFq⟩)
    rw [w4] at c2
    refine dOk_G (dnz_ok (by rw [w0]; exact hp0)) (dOk_G (dg_ok (by omega) (by omega)) (dOk_L (fun v3 e3 => ?_)))
    have ncl := cl_eq (i := x1) (by omega)
    have hv : 48 ≤ Int32.toInt v3 ∧ Int32.toInt v3 ≤ 57 := by
      rw [e3, w46]
      exact hdig c2 _ (by omega) (by omega)
    have f7 : 0 ≤ Int32.toInt (qa.1 24 7) ∧ Int32.toInt (qa.1 24 7) ≤ 1001 := rg_24_7 hTa
    have t1 : Int32.toInt (qa.1 24 7 * 10) = Int32.toInt (qa.1 24 7) * 10 := ti_mul rfl (by decide) (by omega) (by omega)
    have t2 : Int32.toInt (qa.1 24 7 * 10 + v3) = Int32.toInt (qa.1 24 7) * 10 + Int32.toInt v3 := ti_add t1 rfl (by omega) (by omega)
    have t3 : Int32.toInt (qa.1 24 7 * 10 + v3 - 48) = Int32.toInt (qa.1 24 7) * 10 + Int32.toInt v3 - 48 := ti_sub t2 (by decide) (by omega) (by omega)
    have hm := mn_k (b := qa.1 24 7 * 10 + v3 - 48) (show Int32.toInt 1001 = 1001 by decide)
    have t5 : Int32.toInt (x1 + 1) = Int32.toInt x1 + 1 := ti_add rfl (by decide) (by omega) (by omega)
    refine dOk_L (fun q4 e4 => hk (q4, x1 + 1) ⟨?_, ?_, ?_, ?_⟩ ?_)
    · show TC q4
      rw [e4]; exact st_24_7 hTa (show (0 : Int) ≤ Int32.toInt (mnI 1001 (qa.1 24 7 * 10 + v3 - 48)) by omega) (show Int32.toInt (mnI 1001 (qa.1 24 7 * 10 + v3 - 48)) ≤ (1001 : Int) by omega)
    · show cFr [] [(24, 7)] qb q4
      rw [e4]; exact hFa.f (by decide)
    · show Int32.toInt (qb.1 24 5) ≤ Int32.toInt (x1 + 1); omega
    · show Int32.toInt (x1 + 1) ≤ 400; omega
    · show (400 - Int32.toInt (x1 + 1)).toNat < (400 - Int32.toInt x1).toNat; omega
  have h111 : ∀ qb : dK, TC qb → cFr [] [(24, 4), (24, 5), (24, 6), (24, 7)] q qb → digs qb → dOk (zX4_step_s24_111 dF qb) (fun (o : dK) => (TC o) ∧ (cFr [] [(24, 4), (24, 5), (24, 6), (24, 7)] q o)) := by
    intro qb hTb hFb hdig
    have b6 : 0 ≤ Int32.toInt (qb.1 24 6) ∧ Int32.toInt (qb.1 24 6) ≤ 400 := rg_24_6 hTb
    unfold zX4_step_s24_111
    refine dFix_ok (fun (a : dK) => TC a ∧ cFr [] [(24, 4), (24, 5), (24, 6), (24, 7)] q a ∧ digs a) (fun (a : dK) => (400 - Int32.toInt (a.1 24 6)).toNat) ?_ _ ⟨hTb, hFb, hdig⟩ _ (dF_gt (by show (400 - Int32.toInt (qb.1 24 6)).toNat < 1000000000000; omega))
    intro qa ha k hk
    obtain ⟨hTa, hFa, hda⟩ := ha
    have a6 : 0 ≤ Int32.toInt (qa.1 24 6) ∧ Int32.toInt (qa.1 24 6) ≤ 400 := rg_24_6 hTa
    have a1 : 0 ≤ Int32.toInt (qa.1 24 1) ∧ Int32.toInt (qa.1 24 1) ≤ 400 := rg_24_1 hTa
    have w0 : qa.1 24 0 = q.1 24 0 := hFa.1 24 0 (by decide) (by decide)
    show dOk (zX4_step_s24_111b (fun q => k q) qa) _
    unfold zX4_step_s24_111b
    refine dOk_le rfl rfl (fun _ => h162 qa hTa hFa hda) (fun c => ?_)
    refine dOk_eq rfl rfl (fun _ _ => h162 qa hTa hFa hda) (fun _ _ => ?_)
    refine dOk_G (dnz_ok (by rw [w0]; exact hp0)) (dOk_G (dg_ok (by omega) (by omega)) (dOk_L (fun v3 e3 => ?_)))
    refine dOk_V (R := fun r => r = tkV v3) ⟨_, ok_X4_tokenOf2 v3, rfl⟩ (fun r4 e4 => ?_)
    refine dOk_eq rfl rfl (fun c4 _ => ?_) (fun _ _ => h162 qa hTa hFa hda)
    have t1 : Int32.toInt (qa.1 24 6 + 1) = Int32.toInt (qa.1 24 6) + 1 := ti_add rfl (by decide) (by omega) (by omega)
    have ncl := cl_eq (i := qa.1 24 6) (by omega)
    refine dOk_L (fun q6 e6 => hk q6 ⟨?_, ?_, ?_⟩ ?_)
    · rw [e6]; exact st_24_6 hTa (show (0 : Int) ≤ Int32.toInt (qa.1 24 6 + 1) by omega) (show Int32.toInt (qa.1 24 6 + 1) ≤ (400 : Int) by omega)
    · rw [e6]; exact hFa.f (by decide)
    · intro h2 j hj1 hj2
      rw [e6, cui_n (by decide)] at h2
      rw [e6, cui_n (by decide)] at hj1
      rw [e6, cui_e, t1] at hj2
      rw [e6, cui_o (by decide)]
      by_cases cj : (j : Int) < Int32.toInt (qa.1 24 6)
      · exact hda h2 j hj1 cj
      · have ej : j = Int32.toNatClampNeg (qa.1 24 6) := by omega
        rw [ej, ← e3]
        exact tkV_2 (by rw [← e4, c4]; exact h2)
    · show (400 - Int32.toInt (q6.1 24 6)).toNat < (400 - Int32.toInt (qa.1 24 6)).toNat
      rw [e6, cui_e, t1]
      omega
  have h55 : ∀ qb : dK, TC qb → cFr [] [(24, 4), (24, 5), (24, 6), (24, 7)] q qb → dOk (zX4_step_s24_55 qb) (fun (o : dK) => (TC o) ∧ (cFr [] [(24, 4), (24, 5), (24, 6), (24, 7)] q o)) := by
    intro qb hTb hFb
    have b5 : 0 ≤ Int32.toInt (qb.1 24 5) ∧ Int32.toInt (qb.1 24 5) ≤ 400 := rg_24_5 hTb
    unfold zX4_step_s24_55
    refine dOk_L (fun q1 e1 => ?_)
    have hT1 : TC q1 := by rw [e1]; exact st_24_6 hTb (show (0 : Int) ≤ Int32.toInt (qb.1 24 5) by omega) (show Int32.toInt (qb.1 24 5) ≤ (400 : Int) by omega)
    have hF1 : cFr [] [(24, 4), (24, 5), (24, 6), (24, 7)] q q1 := by rw [e1]; exact hFb.f (by decide)
    refine dOk_L (fun q2 e2 => ?_)
    have hT2 : TC q2 := by rw [e2]; exact st_24_7 hT1 (show (0 : Int) ≤ Int32.toInt 0 by decide) (show Int32.toInt 0 ≤ (1001 : Int) by decide)
    have hF2 : cFr [] [(24, 4), (24, 5), (24, 6), (24, 7)] q q2 := by rw [e2]; exact hF1.f (by decide)
    refine dOk_L (fun q3 e3 => ?_)
    have hT3 : TC q3 := by rw [e3]; exact sa_24_4 hT2
    have hF3 : cFr [] [(24, 4), (24, 5), (24, 6), (24, 7)] q q3 := by rw [e3]; exact hF2.f (by decide)
    have w5 : q3.1 24 5 = qb.1 24 5 := by rw [e3, cui_n (by decide), e2, cui_n (by decide), e1, cui_n (by decide)]
    have w6 : q3.1 24 6 = qb.1 24 5 := by rw [e3, cui_n (by decide), e2, cui_n (by decide), e1, cui_e]
    have w0 : q3.1 24 0 = q.1 24 0 := hF3.1 24 0 (by decide) (by decide)
    have a1 : 0 ≤ Int32.toInt (q3.1 24 1) ∧ Int32.toInt (q3.1 24 1) ≤ 400 := rg_24_1 hT3
    refine dOk_lt rfl rfl (fun c => ?_) (fun _ => dOk_some ⟨hT3, hF3⟩)
    rw [w5] at c
    refine dOk_G (dnz_ok (by rw [w0]; exact hp0)) (dOk_G (dg_ok (by rw [w5]; omega) (by rw [w5]; omega)) (dOk_L (fun v6 e6 => ?_)))
    refine dOk_V (R := fun r => r = tkV v6) ⟨_, ok_X4_tokenOf2 v6, rfl⟩ (fun r7 e7 => ?_)
    refine dOk_L (fun q9 e9 => ?_)
    have hT9 : TC q9 := by rw [e9]; exact sa_24_4 hT3
    have hF9 : cFr [] [(24, 4), (24, 5), (24, 6), (24, 7)] q q9 := by rw [e9]; exact hF3.f (by decide)
    have v6' : q9.1 24 6 = qb.1 24 5 := by rw [e9, cui_n (by decide)]; exact w6
    have t1 : Int32.toInt (q9.1 24 6 + 1) = Int32.toInt (qb.1 24 5) + 1 := by rw [v6']; exact ti_add rfl (by decide) (by omega) (by omega)
    refine dOk_L (fun q10 e10 => h111 q10 ?_ ?_ ?_)
    · rw [e10]; exact st_24_6 hT9 (show (0 : Int) ≤ Int32.toInt (q9.1 24 6 + 1) by omega) (show Int32.toInt (q9.1 24 6 + 1) ≤ (400 : Int) by omega)
    · rw [e10]; exact hF9.f (by decide)
    · intro h2 j hj1 hj2
      have z4 : q10.1 24 4 = r7 := by rw [e10, cui_n (by decide), e9, cui_e]
      have z5 : q10.1 24 5 = qb.1 24 5 := by rw [e10, cui_n (by decide), e9, cui_n (by decide)]; exact w5
      have z46 : q10.1 46 = q3.1 46 := by rw [e10, cui_o (by decide), e9, cui_o (by decide)]
      rw [z4] at h2
      rw [z5] at hj1
      rw [e10, cui_e, t1] at hj2
      rw [z46]
      have ncl := cl_eq (i := q3.1 24 5) (by rw [w5]; omega)
      rw [w5] at ncl
      have ej : j = Int32.toNatClampNeg (q3.1 24 5) := by rw [w5]; omega
      rw [ej, ← e6]
      exact tkV_2 (by rw [← e7]; exact h2)
  have f6 : 0 ≤ Int32.toInt (q.1 24 6) ∧ Int32.toInt (q.1 24 6) ≤ 400 := rg_24_6 hT
  unfold zX4_step_s24
  refine dOk_eq rfl rfl (fun _ _ => ?_) (fun _ _ => dOk_some ⟨hT, cFr.rf⟩)
  refine dOk_L (fun q1 e1 => ?_)
  have hT1 : TC q1 := by rw [e1]; exact st_24_5 hT (show (0 : Int) ≤ Int32.toInt (q.1 24 6) by omega) (show Int32.toInt (q.1 24 6) ≤ (400 : Int) by omega)
  have hF1 : cFr [] [(24, 4), (24, 5), (24, 6), (24, 7)] q q1 := by rw [e1]; exact cFr.rf.f (by decide)
  have g5 : 0 ≤ Int32.toInt (q1.1 24 5) ∧ Int32.toInt (q1.1 24 5) ≤ 400 := rg_24_5 hT1
  unfold zX4_step_s24_17
  refine dFix_ok (fun (a : dK) => TC a ∧ cFr [] [(24, 4), (24, 5), (24, 6), (24, 7)] q a) (fun (a : dK) => (400 - Int32.toInt (a.1 24 5)).toNat) ?_ _ ⟨hT1, hF1⟩ _ (dF_gt (by show (400 - Int32.toInt (q1.1 24 5)).toNat < 1000000000000; omega))
  intro qa ha k hk
  obtain ⟨hTa, hFa⟩ := ha
  have a5 : 0 ≤ Int32.toInt (qa.1 24 5) ∧ Int32.toInt (qa.1 24 5) ≤ 400 := rg_24_5 hTa
  have a1 : 0 ≤ Int32.toInt (qa.1 24 1) ∧ Int32.toInt (qa.1 24 1) ≤ 400 := rg_24_1 hTa
  have w0 : qa.1 24 0 = q.1 24 0 := hFa.1 24 0 (by decide) (by decide)
  show dOk (zX4_step_s24_17b (fun q => k q) qa) _
  unfold zX4_step_s24_17b
  refine dOk_le rfl rfl (fun _ => h55 qa hTa hFa) (fun c => ?_)
  refine dOk_G (dnz_ok (by rw [w0]; exact hp0)) (dOk_G (dg_ok (by omega) (by omega)) (dOk_L (fun v3 e3 => ?_)))
  refine dOk_eq rfl rfl (fun _ _ => ?_) (fun _ _ => h55 qa hTa hFa)
  have t1 : Int32.toInt (qa.1 24 5 + 1) = Int32.toInt (qa.1 24 5) + 1 := ti_add rfl (by decide) (by omega) (by omega)
  refine dOk_L (fun q4 e4 => hk q4 ⟨?_, ?_⟩ ?_)
  · rw [e4]; exact st_24_5 hTa (show (0 : Int) ≤ Int32.toInt (qa.1 24 5 + 1) by omega) (show Int32.toInt (qa.1 24 5 + 1) ≤ (400 : Int) by omega)
  · rw [e4]; exact hFa.f (by decide)
  · show (400 - Int32.toInt (q4.1 24 5)).toNat < (400 - Int32.toInt (qa.1 24 5)).toNat
    rw [e4, cui_e, t1]
    omega
theorem ok_J6_bitCount_0f7a4 (p1 : Int32) : dOk (zJ6_bitCount_0f7a4 p1) (fun (o : Int32) => (0 ≤ Int32.toInt o ∧ Int32.toInt o ≤ 63)) := by
  unfold zJ6_bitCount_0f7a4
  refine dOk_L (fun v1 _ => dOk_L (fun v2 _ => dOk_L (fun v3 _ => dOk_L (fun v4 _ => dOk_L (fun v5 _ => dOk_L (fun v6 _ => dOk_L (fun v7 e7 => dOk_some ?_)))))))
  rw [e7]
  exact ti_and63 _
theorem mxmn (r : Int32) : 0 ≤ Int32.toInt (mxI 0 (mnI 99 r)) ∧ Int32.toInt (mxI 0 (mnI 99 r)) ≤ 99 := by
  have h1 := mx_k (b := mnI 99 r) (show Int32.toInt 0 = 0 by decide)
  have h2 := mn_k (b := r) (show Int32.toInt 99 = 99 by decide)
  generalize Int32.toInt (mxI 0 (mnI 99 r)) = A at *
  generalize Int32.toInt (mnI 99 r) = B at *
  omega
end
section
/-! the paper's layout -/
def LD (q : dK) : Prop := ∃ n f : Nat, n ≤ f ∧ f ≤ 6 ∧ (q.1 32 13).toInt = (n : Int) ∧ (q.1 32 14).toInt = facI n * powI n ∧ (q.1 32 100).toInt = facI f ∧ (q.1 32 101).toInt = 6 * facI f ∧ (q.1 32 102).toInt = 6 * powI f ∧ (q.1 32 103).toInt = facI f * powI f ∧ (q.1 32 104).toInt = facI f * powI f ∧ (q.1 32 105).toInt = facI f * powI f ∧ (q.1 32 106).toInt = facI f * powI f
theorem fp_a : ∀ n : Nat, n < 7 → ∀ f : Nat, f < 7 → n ≤ f → facI n ≤ facI f ∧ powI n ≤ powI f ∧ facI n * powI n ≤ facI f * powI f := by decide +kernel
theorem fp_b : ∀ n : Nat, n < 7 → 1 ≤ facI n ∧ 1 ≤ powI n ∧ 1 ≤ facI n * powI n := by decide +kernel
theorem fp_c : ∀ f : Nat, f < 7 → facI f * powI f ≤ 46080 ∧ facI f ≤ 720 ∧ powI f ≤ 64 := by decide +kernel
theorem fp_all (n : Nat) (hn : n < 7) (f : Nat) (hf : f < 7) (h : n ≤ f) : facI n ≤ facI f ∧ powI n ≤ powI f ∧ facI n * powI n ≤ facI f * powI f ∧ 1 ≤ facI n ∧ 1 ≤ powI n ∧ 1 ≤ facI n * powI n ∧ facI f * powI f ≤ 46080 ∧ facI f ≤ 720 ∧ powI f ≤ 64 :=
  ⟨(fp_a n hn f hf h).1, (fp_a n hn f hf h).2.1, (fp_a n hn f hf h).2.2, (fp_b n hn).1, (fp_b n hn).2.1, (fp_b n hn).2.2, (fp_c f hf).1, (fp_c f hf).2.1, (fp_c f hf).2.2⟩
theorem fp_str : ∀ n : Nat, n < 7 → ∀ f : Nat, f < 7 → facI n * powI n ≤ facI f * powI f → n ≤ f := by decide +kernel
theorem pw_I : ∀ n : Nat, n < 7 → powI n = ((2 ^ n : Nat) : Int) := by decide +kernel
theorem sh_31 : ∀ n : Nat, n < 7 → ((nI n &&& 31).toBitVec.smod 32).toNat = n := by decide +kernel
theorem ms_31 : ∀ n : Nat, n < 7 → (((1 : Int32) <<< (nI n &&& 31)) - 1).toBitVec.toNat = 2 ^ n - 1 := by decide +kernel
theorem fac_L : ∀ n : Nat, n < 7 → (([1, 1, 2, 6, 24, 120, 720] : List Int32).getD n 0).toInt = facI n := by decide +kernel
theorem ld_sz {q : dK} (h : LD q) : 1 ≤ Int32.toInt (q.1 32 14) ∧ Int32.toInt (q.1 32 14) ≤ 46080 ∧ Int32.toInt (q.1 32 14) ≤ Int32.toInt (q.1 32 103) ∧ Int32.toInt (q.1 32 104) = Int32.toInt (q.1 32 103) ∧ Int32.toInt (q.1 32 105) = Int32.toInt (q.1 32 103) ∧ Int32.toInt (q.1 32 106) = Int32.toInt (q.1 32 103) ∧ Int32.toInt (q.1 32 103) ≤ 46080 ∧ 0 ≤ Int32.toInt (q.1 32 13) ∧ Int32.toInt (q.1 32 13) ≤ 6 := by
  obtain ⟨n, f, h1, h2, h3, h4, h5, h6, h7, h8, h9, h10, h11⟩ := h
  obtain ⟨g1, g2, g3, g4, g5, g6, g7, g8, g9⟩ := fp_all n (by omega) f (by omega) h1
  refine ⟨?_, ?_, ?_, ?_, ?_, ?_, ?_, ?_, ?_⟩
  · rw [h4]; exact g6
  · rw [h4]; exact Int.le_trans g3 g7
  · rw [h4, h8]; exact g3
  · rw [h9, h8]
  · rw [h10, h8]
  · rw [h11, h8]
  · rw [h8]; exact g7
  · rw [h3]; omega
  · rw [h3]; omega
theorem ld_mk {q : dK} (hT : TC q) (n : Nat) (hn : n ≤ 6) (h3 : (q.1 32 13).toInt = (n : Int)) (h4 : (q.1 32 14).toInt = facI n * powI n) (h8 : (q.1 32 14).toInt ≤ (q.1 32 103).toInt) : LD q := by
  obtain ⟨g1, g2, g3, g4, g5, g6, g7, g8, g9⟩ := fp_all n (by omega) n (by omega) (Nat.le_refl n)
  rcases hT.2.2.1 with hz | ⟨f, hf, k0, k1, k2, k3, k4, k5, k6⟩
  · exfalso
    rw [hz.1, h4] at h8
    replace h8 : facI n * powI n ≤ 0 := h8
    omega
  · rw [k3, h4] at h8
    exact ⟨n, f, fp_str n (by omega) f (by omega) h8, hf, h3, h4, k0, k1, k2, k3, k4, k5, k6⟩
theorem ld_eq {q q' : dK} (h : LD q) (e : ∀ k : Nat, (k = 13 ∨ k = 14 ∨ 100 ≤ k) → q'.1 32 k = q.1 32 k) : LD q' := by
  unfold LD
  rw [e 13 (by omega), e 14 (by omega), e 100 (by omega), e 101 (by omega), e 102 (by omega), e 103 (by omega), e 104 (by omega), e 105 (by omega), e 106 (by omega)]
  exact h
def ldT (S : List Nat) (F : List (Nat × Nat)) : Bool := !S.contains 32 && F.all (fun p => p.1 != 32 || (p.2 != 13 && p.2 != 14 && decide (p.2 < 100)))
theorem ldT_p {S : List Nat} {F : List (Nat × Nat)} (h : ldT S F = true) : 32 ∉ S ∧ ∀ k : Nat, (k = 13 ∨ k = 14 ∨ 100 ≤ k) → (32, k) ∉ F := by
  unfold ldT at h
  simp only [Bool.and_eq_true, Bool.not_eq_true', List.contains_eq_mem, decide_eq_false_iff_not, List.all_eq_true, Bool.or_eq_true, bne_iff_ne, ne_eq, decide_eq_true_eq] at h
  refine ⟨h.1, fun k hk hm => ?_⟩
  have h2 := h.2 (32, k) hm
  rcases h2 with h2 | h2
  · exact h2 rfl
  · replace h2 : (¬ k = 13 ∧ ¬ k = 14) ∧ k < 100 := h2
    omega
theorem ld_fr {S : List Nat} {F : List (Nat × Nat)} {q q' : dK} (h : LD q) (hF : cFr S F q q') (hd : ldT S F = true) : LD q' :=
  ld_eq h (fun k hk => hF.1 32 k (ldT_p hd).1 ((ldT_p hd).2 k hk))
theorem sh_v {x s : Int32} {n : Nat} (hn : n < 7) (hs : s.toInt = (n : Int)) : (x >>> (s &&& 31)).toInt = x.toInt / powI n := by
  obtain ⟨m, rfl, hm, -⟩ := ti_nI (x := s) (by omega)
  have e : m = n := by omega
  subst e
  rw [w_shr32 x (nI m &&& 31) (sh_31 m hn), pw_I m hn]
  rfl
theorem ld_o {q : dK} {t : Int32} (h : LD q) (h0 : 0 ≤ Int32.toInt t) (h1 : Int32.toInt t < Int32.toInt (q.1 32 14)) : 0 ≤ Int32.toInt (t >>> ((q.1 32 13 : Int32) &&& 31)) ∧ Int32.toInt (t >>> ((q.1 32 13 : Int32) &&& 31)) < Int32.toInt (q.1 32 100) ∧ 6 * Int32.toInt (t >>> ((q.1 32 13 : Int32) &&& 31)) + 6 ≤ Int32.toInt (q.1 32 101) ∧ Int32.toInt (t >>> ((q.1 32 13 : Int32) &&& 31)) ≤ 719 := by
  obtain ⟨n, f, h1', h2, h3, h4, h5, h6, h7, h8, h9, h10, h11⟩ := h
  obtain ⟨g1, g2, g3, g4, g5, g6, g7, g8, g9⟩ := fp_all n (by omega) f (by omega) h1'
  rw [sh_v (by omega) h3, h5, h6]
  rw [h4] at h1
  have k1 : 0 ≤ Int32.toInt t / powI n := Int.ediv_nonneg h0 (by omega)
  have k2 : Int32.toInt t / powI n < facI n := Int.ediv_lt_of_lt_mul (by omega) h1
  omega
theorem ld_h {q : dK} (t : Int32) (h : LD q) : 0 ≤ Int32.toInt (t &&& (((1 : Int32) <<< ((q.1 32 13 : Int32) &&& 31)) - 1)) ∧ 6 * Int32.toInt (t &&& (((1 : Int32) <<< ((q.1 32 13 : Int32) &&& 31)) - 1)) + 6 ≤ Int32.toInt (q.1 32 102) ∧ Int32.toInt (t &&& (((1 : Int32) <<< ((q.1 32 13 : Int32) &&& 31)) - 1)) ≤ 63 := by
  obtain ⟨n, f, h1', h2, h3, h4, h5, h6, h7, h8, h9, h10, h11⟩ := h
  obtain ⟨g1, g2, g3, g4, g5, g6, g7, g8, g9⟩ := fp_all n (by omega) f (by omega) h1'
  obtain ⟨m, hm1, hm, -⟩ := ti_nI (x := q.1 32 13) (by omega)
  have e : m = n := by omega
  subst e
  have hp := pw_I m (by omega)
  have hk : t.toBitVec.toNat % 2 ^ m < 2 ^ m := Nat.mod_lt _ (Nat.two_pow_pos m)
  rw [h7, hm1, pk_and t m (ms_31 m (by omega)), nI_toInt (by omega)]
  omega
theorem ld_w {s v w : Int32} (hs : 0 ≤ s.toInt) (hs2 : s.toInt ≤ 6) (hv : 0 ≤ v.toInt) (hv2 : v.toInt ≤ 719) (hw : 0 ≤ w.toInt) (hw2 : w.toInt ≤ 63) : 0 ≤ Int32.toInt ((v <<< (s &&& 31)) ||| w) := by
  obtain ⟨m, rfl, hm, -⟩ := ti_nI hs
  have hp := pw_I m (by omega)
  have h2 : (2 : Nat) ^ m ≤ 2 ^ 6 := Nat.pow_le_pow_right (by decide) (by omega)
  have h0 : 0 ≤ ((2 ^ m : Nat) : Int) := Int.natCast_nonneg _
  have h3 : v.toInt * ((2 ^ m : Nat) : Int) ≤ 719 * 64 := Int.mul_le_mul hv2 (by omega) h0 (by omega)
  have h4 : 0 ≤ v.toInt * ((2 ^ m : Nat) : Int) := Int.mul_nonneg hv h0
  have h5 : ((2 ^ m : Nat) : Int) = (2 : Int) ^ m := by rw [Int.natCast_pow]; rfl
  have e : (v <<< (nI m &&& 31)).toInt = v.toInt * 2 ^ m := w_shl32 v _ (sh_31 m (by omega)) (by rw [← h5]; omega) (by rw [← h5]; omega)
  rw [← h5] at e
  exact (ti_or (x := v <<< (nI m &&& 31)) (y := w) 16 (by decide) (by omega) (by omega) hw (by omega)).1
theorem ok_X3_turned_s32 (q : dK) (p1 : Int32) (p2 : Int32) (hT : TC q) (hp0 : LD q) (hp1 : 0 ≤ Int32.toInt p1) (hp2 : Int32.toInt p1 < Int32.toInt (q.1 32 14)) : dOk (zX3_turned_s32 q p1 p2) (fun (o : Int32 × dK) => (o.2 = q) ∧ (0 ≤ Int32.toInt o.1) ∧ (Int32.toInt o.1 < Int32.toInt (q.1 32 14))) := by
  unfold zX3_turned_s32 zX3_turned_s32_13 zX3_turned_s32_84
  refine dOk_lt rfl (by decide : Int32.toInt 1 = 1) (fun _ => dOk_some ⟨rfl, hp1, hp2⟩) (fun c1 => ?_)
  refine dOk_le rfl rfl (fun c2 => ?_) (fun _ => dOk_some ⟨rfl, hp1, hp2⟩)
  have s0 := ld_sz hp0
  have o1 := ld_o hp0 hp1 hp2
  have o2 := ld_h p1 hp0
  have r1 := rg_32_101 hT
  have r2 := rg_32_102 hT
  refine dOk_L (fun v1 e1 => ?_)
  rw [← e1] at o2
  generalize p1 >>> ((q.1 32 13 : Int32) &&& 31) = od at o1 ⊢
  have t1 : Int32.toInt (od * 6) = od.toInt * 6 := ti_mul rfl (by decide) (by omega) (by omega)
  have t2 : Int32.toInt (od * 6 + p2) = od.toInt * 6 + p2.toInt := ti_add t1 rfl (by omega) (by omega)
  have t3 : Int32.toInt (od * 6 + p2 - 1) = od.toInt * 6 + p2.toInt - 1 := ti_sub t2 (by decide) (by omega) (by omega)
  have u1 : Int32.toInt (v1 * 6) = v1.toInt * 6 := ti_mul rfl (by decide) (by omega) (by omega)
  have u2 : Int32.toInt (v1 * 6 + p2) = v1.toInt * 6 + p2.toInt := ti_add u1 rfl (by omega) (by omega)
  have u3 : Int32.toInt (v1 * 6 + p2 - 1) = v1.toInt * 6 + p2.toInt - 1 := ti_sub u2 (by decide) (by omega) (by omega)
  refine dOk_L (fun v2 e2 => ?_)
  rw [← e2] at t3
  refine dOk_G (dg_ok (by omega) (by rw [cl_eq (by omega)]; omega)) (dOk_L (fun v4 e4 => dOk_G (dg_ok (by omega) (by rw [cl_eq (by omega)]; omega)) (dOk_L (fun v6 e6 => ?_))))
  have g4 : 0 ≤ Int32.toInt v4 ∧ Int32.toInt v4 ≤ 719 := by rw [e4]; exact rg_40 hT _
  have g6 : 0 ≤ Int32.toInt v6 ∧ Int32.toInt v6 ≤ 63 := by rw [e6]; exact rg_41 hT _
  have hw := ld_w (s := q.1 32 13) (v := v4) (w := v6) (by omega) (by omega) g4.1 g4.2 g6.1 g6.2
  refine dOk_le rfl rfl (fun _ => dOk_some ⟨rfl, hp1, hp2⟩) (fun c3 => dOk_some ⟨rfl, hw, c3⟩)
theorem ok_X3_caseNumber (p1 p2 p3 p4 : Int32) (hp0 : 1 ≤ Int32.toInt p1) (hp1 : Int32.toInt p1 ≤ 6) (hp2 : 0 ≤ Int32.toInt p2) (hp3 : Int32.toInt p2 ≤ 7) (hp4 : 0 ≤ Int32.toInt p3) (hp5 : Int32.toInt p3 ≤ 7) (hp6 : 0 ≤ Int32.toInt p4) (hp7 : Int32.toInt p4 ≤ 1) : dOk (zX3_caseNumber p1 p2 p3 p4) (fun (o : Int32) => (Int32.toInt o = (((Int32.toInt p1 - 1) * 6 + Int32.toInt p2) * 7 + Int32.toInt p3) * 2 + Int32.toInt p4)) := by
  unfold zX3_caseNumber
  have t1 : Int32.toInt (p1 - 1) = p1.toInt - 1 := ti_sub rfl (by decide) (by omega) (by omega)
  have t2 : Int32.toInt ((p1 - 1) * 6) = (p1.toInt - 1) * 6 := ti_mul t1 (by decide) (by omega) (by omega)
  have t3 : Int32.toInt ((p1 - 1) * 6 + p2) = (p1.toInt - 1) * 6 + p2.toInt := ti_add t2 rfl (by omega) (by omega)
  have t4 : Int32.toInt (((p1 - 1) * 6 + p2) * 7) = ((p1.toInt - 1) * 6 + p2.toInt) * 7 := ti_mul t3 (by decide) (by omega) (by omega)
  have t5 : Int32.toInt (((p1 - 1) * 6 + p2) * 7 + p3) = ((p1.toInt - 1) * 6 + p2.toInt) * 7 + p3.toInt := ti_add t4 rfl (by omega) (by omega)
  have t6 : Int32.toInt ((((p1 - 1) * 6 + p2) * 7 + p3) * 2) = (((p1.toInt - 1) * 6 + p2.toInt) * 7 + p3.toInt) * 2 := ti_mul t5 (by decide) (by omega) (by omega)
  refine dOk_L (fun v1 e1 => dOk_some ?_)
  rw [← e1] at t6
  exact ti_add t6 rfl (by omega) (by omega)
theorem ti_and7 (x : Int32) : 0 ≤ (x &&& 7).toInt ∧ (x &&& 7).toInt ≤ 7 := by
  have h := pk_and x (m := 7) 3 (by decide)
  rw [h, nI_toInt (by omega)]
  omega
theorem ok_X3_caseOf_s32 (q : dK) (p1 : Int32) (p2 : Int32) (hT : TC q) (hp0 : LD q) (hp1 : 0 ≤ Int32.toInt p1) (hp2 : Int32.toInt p1 < Int32.toInt (q.1 32 14)) (hp3 : 1 ≤ Int32.toInt p2) (hp4 : Int32.toInt p2 ≤ Int32.toInt (q.1 32 13)) : dOk (zX3_caseOf_s32 q p1 p2) (fun (o : Int32 × dK) => (o.2 = q) ∧ (0 ≤ Int32.toInt o.1) ∧ (Int32.toInt o.1 < 504)) := by
  unfold zX3_caseOf_s32 zX3_caseOf_s32_33
  have s0 := ld_sz hp0
  have o1 := ld_o hp0 hp1 hp2
  have r1 := rg_32_100 hT
  refine dOk_G (dg_ok (by omega) (by rw [cl_eq (by omega)]; omega)) (dOk_L (fun v2 e2 => ?_))
  have hD : (v2 &&& 7).toInt ≤ 5 := by rw [e2]; exact (hT.2.1.2 _).2.2.2.2
  have h7 := ti_and7 v2
  have h1 := ti_and1 p1
  refine dOk_le rfl rfl (fun c => ?_) (fun c => ?_)
  · refine dOk_V (ok_X3_caseNumber p2 (v2 &&& 7) 6 (p1 &&& 1) hp3 (by omega) h7.1 h7.2 (show (0 : Int) ≤ 6 by decide) (show (6 : Int) ≤ 7 by decide) h1.1 h1.2) (fun r h => dOk_some ⟨rfl, ?_⟩)
    replace h : Int32.toInt r = (((Int32.toInt p2 - 1) * 6 + Int32.toInt (v2 &&& 7)) * 7 + 6) * 2 + Int32.toInt (p1 &&& 1) := h
    show 0 ≤ Int32.toInt r ∧ Int32.toInt r < 504
    omega
  · have h8 := ti_and7 (v2 >>> (((3 * p2 : Int32) : Int32) &&& 31))
    refine dOk_V (ok_X3_caseNumber p2 (v2 &&& 7) _ (p1 &&& 1) hp3 (by omega) h7.1 h7.2 h8.1 h8.2 h1.1 h1.2) (fun r h => dOk_some ⟨rfl, ?_⟩)
    replace h : Int32.toInt r = (((Int32.toInt p2 - 1) * 6 + Int32.toInt (v2 &&& 7)) * 7 + Int32.toInt ((v2 >>> (((3 * p2 : Int32) : Int32) &&& 31)) &&& 7)) * 2 + Int32.toInt (p1 &&& 1) := h
    show 0 ≤ Int32.toInt r ∧ Int32.toInt r < 504
    omega
theorem sl_r {x s : Int32} (h0 : 0 ≤ x.toInt) (h1 : x.toInt ≤ 63) (g0 : 0 ≤ s.toInt) (g1 : s.toInt ≤ 6) : 0 ≤ Int32.toInt ((x >>> (s &&& 31)) <<< (s &&& 31)) ∧ Int32.toInt ((x >>> (s &&& 31)) <<< (s &&& 31)) ≤ 63 := by
  obtain ⟨n, rfl, hn, -⟩ := ti_nI h0
  obtain ⟨m, rfl, hm, -⟩ := ti_nI g0
  have h : ∀ n : Nat, n < 64 → ∀ m : Nat, m < 7 → 0 ≤ Int32.toInt ((nI n >>> (nI m &&& 31)) <<< (nI m &&& 31)) ∧ Int32.toInt ((nI n >>> (nI m &&& 31)) <<< (nI m &&& 31)) ≤ 63 := by decide +kernel
  exact h n (by omega) m (by omega)
/-! entries of the line below a number are towers -/
def BL (q : dK) (n : Int) : Prop := ∀ i : Nat, (i : Int) < n → 0 ≤ Int32.toInt (q.1 44 i) ∧ Int32.toInt (q.1 44 i) < Int32.toInt (q.1 32 14)
theorem bl_0 {q : dK} : BL q 0 := fun i h => by omega
theorem bl_c {q : dK} {n m : Int} (h : BL q n) (hm : m ≤ n) : BL q m := fun i hi => h i (by omega)
def blT (S : List Nat) (F : List (Nat × Nat)) : Bool := !S.contains 44 && !S.contains 32 && F.all (fun p => p.1 != 44 && (p.1 != 32 || p.2 != 14))
theorem bl_f {S : List Nat} {F : List (Nat × Nat)} {q q' : dK} {n : Int} (h : BL q n) (hF : cFr S F q q') (hd : blT S F = true) : BL q' n := by
  unfold blT at hd
  simp only [Bool.and_eq_true, Bool.not_eq_true', List.contains_eq_mem, decide_eq_false_iff_not, List.all_eq_true, Bool.or_eq_true, bne_iff_ne, ne_eq] at hd
  obtain ⟨⟨d1, d2⟩, d3⟩ := hd
  intro i hi
  rw [hF.1 44 i d1 (fun z => (d3 _ z).1 rfl), hF.1 32 14 d2 (fun z => by rcases (d3 _ z).2 with e | e; exact e rfl; exact e rfl)]
  exact h i hi
theorem bl_o {q : dK} {n : Int} {j k : Nat} {v : Int32} (h : BL q n) (hd : (j != 44 && (j != 32 || k != 14)) = true) : BL (cui q j k v) n := by
  simp only [Bool.and_eq_true, Bool.or_eq_true, bne_iff_ne, ne_eq] at hd
  intro i hi
  rw [cui_x (by omega), cui_x (by omega)]
  exact h i hi
theorem bl_s {q : dK} {n : Int} {k : Nat} {v : Int32} (h : BL q n) (hk : n ≤ (k : Int)) (h0 : 0 ≤ Int32.toInt v) (h1 : Int32.toInt v < Int32.toInt (q.1 32 14)) : BL (cui q 44 k v) (if (k : Int) = n then n + 1 else n) := by
  intro i hi
  rw [cui_o (j' := 32) (by decide)]
  by_cases c : i = k
  · subst c; rw [cui_e]; exact ⟨h0, h1⟩
  · rw [cui_n c]
    refine h i ?_
    by_cases c2 : (k : Int) = n
    · rw [if_pos c2] at hi; omega
    · rw [if_neg c2] at hi; exact hi
theorem bl_p {q : dK} {n : Int} {k : Nat} {v : Int32} (h : BL q n) (hk : (k : Int) = n) (h0 : 0 ≤ Int32.toInt v) (h1 : Int32.toInt v < Int32.toInt (q.1 32 14)) : BL (cui q 44 k v) (n + 1) := by
  have h2 := bl_s (k := k) (v := v) h (by omega) h0 h1
  rw [if_pos hk] at h2
  exact h2
end
section
set_option maxHeartbeats 4000000 in
set_option maxRecDepth 100000 in
theorem ok_X9_isRank (p1 : Int32) : dOk (zX9_isRank p1) (fun (o : Int32) => ((Int32.toInt o = 1 ∧ 0 ≤ Int32.toInt p1 ∧ Int32.toInt p1 ≤ 5) ∨ (Int32.toInt o = 0 ∧ (Int32.toInt p1 < 0 ∨ 5 < Int32.toInt p1)))) := by
  unfold zX9_isRank
  refine dOk_lt (A := Int32.toInt p1) (B := 0) rfl (by decide) (fun c_1 => ?_) (fun c_2 => ?_)
  · unfold zX9_isRank_14
    unfold zX9_isRank_15
    refine dOk_G (dbl_ok (show (0 : Int) = 0 ∨ (0 : Int) = 1 by omega)) ?_
    exact dOk_some (show (((0 : Int) = 1 ∧ 0 ≤ Int32.toInt p1 ∧ Int32.toInt p1 ≤ 5) ∨ ((0 : Int) = 0 ∧ (Int32.toInt p1 < 0 ∨ 5 < Int32.toInt p1))) from (by omega))
  · refine dOk_le (A := 6) (B := Int32.toInt p1) (by decide) rfl (fun c_3 => ?_) (fun c_4 => ?_)
    · unfold zX9_isRank_14
      unfold zX9_isRank_15
      refine dOk_G (dbl_ok (show (0 : Int) = 0 ∨ (0 : Int) = 1 by omega)) ?_
      exact dOk_some (show (((0 : Int) = 1 ∧ 0 ≤ Int32.toInt p1 ∧ Int32.toInt p1 ≤ 5) ∨ ((0 : Int) = 0 ∧ (Int32.toInt p1 < 0 ∨ 5 < Int32.toInt p1))) from (by omega))
    · unfold zX9_isRank_15
      refine dOk_G (dbl_ok (show (1 : Int) = 0 ∨ (1 : Int) = 1 by omega)) ?_
      exact dOk_some (show (((1 : Int) = 1 ∧ 0 ≤ Int32.toInt p1 ∧ Int32.toInt p1 ≤ 5) ∨ ((1 : Int) = 0 ∧ (Int32.toInt p1 < 0 ∨ 5 < Int32.toInt p1))) from (by omega))

set_option maxHeartbeats 4000000 in
set_option maxRecDepth 100000 in
theorem ok_X9_isBit (p1 : Int32) : dOk (zX9_isBit p1) (fun (o : Int32) => ((Int32.toInt o = 1 ∧ 0 ≤ Int32.toInt p1 ∧ Int32.toInt p1 ≤ 1) ∨ (Int32.toInt o = 0 ∧ (Int32.toInt p1 < 0 ∨ 1 < Int32.toInt p1)))) := by
  unfold zX9_isBit
  refine dOk_eq (A := Int32.toInt p1) (B := 0) rfl (by decide) (fun c_1z c_1 => ?_) (fun c_2z c_2 => ?_)
  · unfold zX9_isBit_9
    unfold zX9_isBit_14
    refine dOk_G (dbl_ok (show (1 : Int) = 0 ∨ (1 : Int) = 1 by omega)) ?_
    exact dOk_some (show (((1 : Int) = 1 ∧ 0 ≤ Int32.toInt p1 ∧ Int32.toInt p1 ≤ 1) ∨ ((1 : Int) = 0 ∧ (Int32.toInt p1 < 0 ∨ 1 < Int32.toInt p1))) from (by omega))
  · refine dOk_eq (A := Int32.toInt p1) (B := 1) rfl (by decide) (fun c_4z c_4 => ?_) (fun c_5z c_5 => ?_)
    · unfold zX9_isBit_9
      unfold zX9_isBit_14
      refine dOk_G (dbl_ok (show (1 : Int) = 0 ∨ (1 : Int) = 1 by omega)) ?_
      exact dOk_some (show (((1 : Int) = 1 ∧ 0 ≤ Int32.toInt p1 ∧ Int32.toInt p1 ≤ 1) ∨ ((1 : Int) = 0 ∧ (Int32.toInt p1 < 0 ∨ 1 < Int32.toInt p1))) from (by omega))
    · unfold zX9_isBit_14
      refine dOk_G (dbl_ok (show (0 : Int) = 0 ∨ (0 : Int) = 1 by omega)) ?_
      exact dOk_some (show (((0 : Int) = 1 ∧ 0 ≤ Int32.toInt p1 ∧ Int32.toInt p1 ≤ 1) ∨ ((0 : Int) = 0 ∧ (Int32.toInt p1 < 0 ∨ 1 < Int32.toInt p1))) from (by omega))

set_option maxHeartbeats 4000000 in
set_option maxRecDepth 100000 in
theorem ok_X9_isImage (p1 : Int32) : dOk (zX9_isImage p1) (fun (o : Int32) => ((Int32.toInt o = 1 ∧ 0 ≤ Int32.toInt p1 ∧ Int32.toInt p1 ≤ 1) ∨ (Int32.toInt o = 0))) := by
  unfold zX9_isImage
  refine dOk_lt (A := Int32.toInt p1) (B := 0) rfl (by decide) (fun c_1 => ?_) (fun c_2 => ?_)
  · unfold zX9_isImage_13
    unfold zX9_isImage_14
    refine dOk_G (dbl_ok (show (0 : Int) = 0 ∨ (0 : Int) = 1 by omega)) ?_
    exact dOk_some (show (((0 : Int) = 1 ∧ 0 ≤ Int32.toInt p1 ∧ Int32.toInt p1 ≤ 1) ∨ ((0 : Int) = 0)) from (by omega))
  · refine dOk_le (A := 2) (B := Int32.toInt p1) (by decide) rfl (fun c_3 => ?_) (fun c_4 => ?_)
    · unfold zX9_isImage_13
      unfold zX9_isImage_14
      refine dOk_G (dbl_ok (show (0 : Int) = 0 ∨ (0 : Int) = 1 by omega)) ?_
      exact dOk_some (show (((0 : Int) = 1 ∧ 0 ≤ Int32.toInt p1 ∧ Int32.toInt p1 ≤ 1) ∨ ((0 : Int) = 0)) from (by omega))
    · unfold zX9_isImage_14
      refine dOk_G (dbl_ok (show (1 : Int) = 0 ∨ (1 : Int) = 1 by omega)) ?_
      exact dOk_some (show (((1 : Int) = 1 ∧ 0 ≤ Int32.toInt p1 ∧ Int32.toInt p1 ≤ 1) ∨ ((1 : Int) = 0)) from (by omega))

set_option maxHeartbeats 4000000 in
set_option maxRecDepth 100000 in
theorem ok_X9_bit (p1 : Int32) : dOk (zX9_bit p1) (fun (o : Int32) => ((Int32.toInt o = 0 ∨ Int32.toInt o = 1))) := by
  unfold zX9_bit
  refine dOk_eq (A := Int32.toInt p1) (B := 0) rfl (by decide) (fun c_1z c_1 => ?_) (fun c_2z c_2 => ?_)
  · unfold zX9_bit_9
    exact dOk_some (show (((0 : Int) = 0 ∨ (0 : Int) = 1)) from (by omega))
  · unfold zX9_bit_9
    exact dOk_some (show (((1 : Int) = 0 ∨ (1 : Int) = 1)) from (by omega))

set_option maxHeartbeats 4000000 in
set_option maxRecDepth 100000 in
theorem ok_X9_mostOfTerm (p1 : Int32) : dOk (zX9_mostOfTerm p1) (fun (o : Int32) => ((Int32.toInt p1 = 0 ∧ Int32.toInt o = 999) ∨ (Int32.toInt p1 = 1 ∧ Int32.toInt o = 10) ∨ (Int32.toInt p1 = 2 ∧ Int32.toInt o = 9) ∨ (Int32.toInt p1 = 3 ∧ Int32.toInt o = 1) ∨ (Int32.toInt o = -1 ∧ ¬ Int32.toInt p1 = 1))) := by
  unfold zX9_mostOfTerm
  refine dOk_eq (A := Int32.toInt p1) (B := 0) rfl (by decide) (fun c_1z c_1 => ?_) (fun c_2z c_2 => ?_)
  · exact dOk_some (show ((Int32.toInt p1 = 0 ∧ (999 : Int) = 999) ∨ (Int32.toInt p1 = 1 ∧ (999 : Int) = 10) ∨ (Int32.toInt p1 = 2 ∧ (999 : Int) = 9) ∨ (Int32.toInt p1 = 3 ∧ (999 : Int) = 1) ∨ ((999 : Int) = -1 ∧ ¬ Int32.toInt p1 = 1)) from (by omega))
  · refine dOk_eq (A := Int32.toInt p1) (B := 1) rfl (by decide) (fun c_4z c_4 => ?_) (fun c_5z c_5 => ?_)
    · exact dOk_some (show ((Int32.toInt p1 = 0 ∧ (10 : Int) = 999) ∨ (Int32.toInt p1 = 1 ∧ (10 : Int) = 10) ∨ (Int32.toInt p1 = 2 ∧ (10 : Int) = 9) ∨ (Int32.toInt p1 = 3 ∧ (10 : Int) = 1) ∨ ((10 : Int) = -1 ∧ ¬ Int32.toInt p1 = 1)) from (by omega))
    · refine dOk_eq (A := Int32.toInt p1) (B := 2) rfl (by decide) (fun c_7z c_7 => ?_) (fun c_8z c_8 => ?_)
      · exact dOk_some (show ((Int32.toInt p1 = 0 ∧ (9 : Int) = 999) ∨ (Int32.toInt p1 = 1 ∧ (9 : Int) = 10) ∨ (Int32.toInt p1 = 2 ∧ (9 : Int) = 9) ∨ (Int32.toInt p1 = 3 ∧ (9 : Int) = 1) ∨ ((9 : Int) = -1 ∧ ¬ Int32.toInt p1 = 1)) from (by omega))
      · refine dOk_eq (A := Int32.toInt p1) (B := 3) rfl (by decide) (fun c_10z c_10 => ?_) (fun c_11z c_11 => ?_)
        · exact dOk_some (show ((Int32.toInt p1 = 0 ∧ (1 : Int) = 999) ∨ (Int32.toInt p1 = 1 ∧ (1 : Int) = 10) ∨ (Int32.toInt p1 = 2 ∧ (1 : Int) = 9) ∨ (Int32.toInt p1 = 3 ∧ (1 : Int) = 1) ∨ ((1 : Int) = -1 ∧ ¬ Int32.toInt p1 = 1)) from (by omega))
        · exact dOk_some (show ((Int32.toInt p1 = 0 ∧ (-1 : Int) = 999) ∨ (Int32.toInt p1 = 1 ∧ (-1 : Int) = 10) ∨ (Int32.toInt p1 = 2 ∧ (-1 : Int) = 9) ∨ (Int32.toInt p1 = 3 ∧ (-1 : Int) = 1) ∨ ((-1 : Int) = -1 ∧ ¬ Int32.toInt p1 = 1)) from (by omega))

set_option maxHeartbeats 4000000 in
set_option maxRecDepth 100000 in
theorem ok_X0_clear_s10 (q : dK) (hT : TC q) : dOk (zX0_clear_s10 q) (fun (o : dK) => (TC o) ∧ (cFr [] [(10, 2)] q o)) := by
  unfold zX0_clear_s10
  refine dOk_L (fun q_1 eq_1 => ?_)
  have hTq_1 : TC q_1 := by rw [eq_1]; exact st_10_2 hT (show (0 : Int) ≤ (0 : Int) by omega) (show (0 : Int) ≤ (16 : Int) by omega)
  have hFq_1 : cFr [] [(10, 2)] q q_1 := by rw [eq_1]; exact (cFr.rf (q := q)).f (by decide)
  exact dOk_some (show (TC q_1) ∧ (cFr [] [(10, 2)] q q_1) from ⟨hTq_1, hFq_1⟩)

set_option maxHeartbeats 4000000 in
set_option maxRecDepth 100000 in
theorem ok_X9_accept_s0 (q : dK) (p1 : Int32) (hT : TC q) : dOk (zX9_accept_s0 q p1) (fun (o : Int32 × dK) => (TC o.2) ∧ (cFr [] [(0, 18)] q o.2) ∧ (Int32.toInt o.1 = Int32.toInt p1)) := by
  unfold zX9_accept_s0
  refine dOk_L (fun q_1 eq_1 => ?_)
  have hTq_1 : TC q_1 := by rw [eq_1]; exact sa_0_18 hT
  have hFq_1 : cFr [] [(0, 18)] q q_1 := by rw [eq_1]; exact (cFr.rf (q := q)).f (by decide)
  exact dOk_some (show (TC q_1) ∧ (cFr [] [(0, 18)] q q_1) ∧ (Int32.toInt p1 = Int32.toInt p1) from ⟨hTq_1, hFq_1, by omega⟩)

set_option maxHeartbeats 4000000 in
set_option maxRecDepth 100000 in
theorem ok_X7_clear_s25 (q : dK) (hT : TC q) : dOk (zX7_clear_s25 q) (fun (o : dK) => (TC o) ∧ (cFr [] [(25, 6), (25, 7)] q o)) := by
  unfold zX7_clear_s25
  refine dOk_L (fun q_1 eq_1 => ?_)
  have hTq_1 : TC q_1 := by rw [eq_1]; exact st_25_6 hT (show (0 : Int) ≤ (0 : Int) by omega) (show (0 : Int) ≤ (12 : Int) by omega)
  have hFq_1 : cFr [] [(25, 6), (25, 7)] q q_1 := by rw [eq_1]; exact (cFr.rf (q := q)).f (by decide)
  refine dOk_L (fun q_2 eq_2 => ?_)
  have hTq_2 : TC q_2 := by rw [eq_2]; exact st_25_7 hTq_1 (show (0 : Int) ≤ (0 : Int) by omega) (show (0 : Int) ≤ (400 : Int) by omega)
  have hFq_2 : cFr [] [(25, 6), (25, 7)] q q_2 := by rw [eq_2]; exact hFq_1.f (by decide)
  exact dOk_some (show (TC q_2) ∧ (cFr [] [(25, 6), (25, 7)] q q_2) from ⟨hTq_2, hFq_2⟩)

set_option maxHeartbeats 4000000 in
set_option maxRecDepth 100000 in
theorem ok_X9_bricks_s0 (q : dK) (hT : TC q) : dOk (zX9_bricks_s0 q) (fun (o : Int32 × dK) => (o.2 = q)) := by
  unfold zX9_bricks_s0
  exact dOk_some (show (q = q) from rfl)

set_option maxHeartbeats 4000000 in
set_option maxRecDepth 100000 in
theorem ok_X9_fault_s0 (q : dK) (hT : TC q) : dOk (zX9_fault_s0 q) (fun (o : Int32 × dK) => (o.2 = q)) := by
  unfold zX9_fault_s0
  exact dOk_some (show (q = q) from rfl)

set_option maxHeartbeats 4000000 in
set_option maxRecDepth 100000 in
theorem ok_X9_stopped_s0 (q : dK) (hT : TC q) : dOk (zX9_stopped_s0 q) (fun (o : Int32 × dK) => (o.2 = q)) := by
  unfold zX9_stopped_s0
  exact dOk_some (show (q = q) from rfl)

set_option maxHeartbeats 4000000 in
set_option maxRecDepth 100000 in
theorem ok_X9_status_s0 (q : dK) (hT : TC q) : dOk (zX9_status_s0 q) (fun (o : Int32 × dK) => (o.2 = q)) := by
  unfold zX9_status_s0
  exact dOk_some (show (q = q) from rfl)
end
section
set_option maxHeartbeats 4000000 in
set_option maxRecDepth 100000 in
theorem ok_X9_refuse_s0 (q : dK) (p1 : Int32) (hT : TC q) : dOk (zX9_refuse_s0 q p1) (fun (o : Int32 × dK) => (TC o.2) ∧ (cFr [48] [(0, 18)] q o.2) ∧ (Int32.toInt o.1 = Int32.toInt p1)) := by
  unfold zX9_refuse_s0
  refine dOk_L (fun q_1 eq_1 => ?_)
  have hTq_1 : TC q_1 := by rw [eq_1]; exact sa_0_18 hT
  have hFq_1 : cFr [48] [(0, 18)] q q_1 := by rw [eq_1]; exact (cFr.rf (q := q)).f (by decide)
  refine dOk_le (A := 0) (B := Int32.toInt p1) (by decide) rfl (fun c_2 => ?_) (fun c_3 => ?_)
  · unfold zX9_refuse_s0_26
    exact dOk_some (show (TC q_1) ∧ (cFr [48] [(0, 18)] q q_1) ∧ (Int32.toInt p1 = Int32.toInt p1) from ⟨hTq_1, hFq_1, by omega⟩)
  · refine dOk_lt (A := Int32.toInt p1) (B := (-6)) rfl (by decide) (fun c_4 => ?_) (fun c_5 => ?_)
    · unfold zX9_refuse_s0_26
      exact dOk_some (show (TC q_1) ∧ (cFr [48] [(0, 18)] q q_1) ∧ (Int32.toInt p1 = Int32.toInt p1) from ⟨hTq_1, hFq_1, by omega⟩)
    · try have t_6 : Int32.toInt ((-p1)) = -Int32.toInt p1 := ti_neg rfl (by omega) (by omega)
      refine dOk_G (dg_ok (show 0 ≤ Int32.toInt (-p1) by omega) (show Int32.toInt (-p1) < ((7 : Nat) : Int) by omega)) ?_
      have n_7 : ((Int32.toNatClampNeg (-p1) : Nat) : Int) = Int32.toInt (-p1) := cl_eq (by omega)
      refine dOk_L (fun v_8 ev_8 => ?_)
      refine dOk_G (dg_ok (show 0 ≤ Int32.toInt (-p1) by omega) (show Int32.toInt (-p1) < ((7 : Nat) : Int) by omega)) ?_
      refine dOk_L (fun q_9 eq_9 => ?_)
      have hTq_9 : TC q_9 := by rw [eq_9]; exact sa_48 hTq_1
      have hFq_9 : cFr [48] [(0, 18)] q q_9 := by rw [eq_9]; exact hFq_1.i (by decide)
      unfold zX9_refuse_s0_26
      exact dOk_some (show (TC q_9) ∧ (cFr [48] [(0, 18)] q q_9) ∧ (Int32.toInt p1 = Int32.toInt p1) from ⟨hTq_9, hFq_9, by omega⟩)

set_option maxHeartbeats 4000000 in
set_option maxRecDepth 100000 in
theorem ok_X8_isFloor_s2 (q : dK) (p1 : Int32) (hT : TC q) : dOk (zX8_isFloor_s2 q p1) (fun (o : Int32 × dK) => (o.2 = q) ∧ ((Int32.toInt o.1 = 1 ∧ 0 ≤ Int32.toInt p1 ∧ Int32.toInt p1 < Int32.toInt (q.1 2 2)) ∨ (Int32.toInt o.1 = 0 ∧ (Int32.toInt p1 < 0 ∨ Int32.toInt (q.1 2 2) ≤ Int32.toInt p1)))) := by
  unfold zX8_isFloor_s2
  refine dOk_lt (A := Int32.toInt p1) (B := 0) rfl (by decide) (fun c_1 => ?_) (fun c_2 => ?_)
  · unfold zX8_isFloor_s2_16
    unfold zX8_isFloor_s2_17
    refine dOk_G (dbl_ok (show (0 : Int) = 0 ∨ (0 : Int) = 1 by omega)) ?_
    have f_3 : 0 ≤ Int32.toInt (q.1 2 2) ∧ Int32.toInt (q.1 2 2) ≤ 6 := rg_2_2 hT
    exact dOk_some (show (q = q) ∧ (((0 : Int) = 1 ∧ 0 ≤ Int32.toInt p1 ∧ Int32.toInt p1 < Int32.toInt (q.1 2 2)) ∨ ((0 : Int) = 0 ∧ (Int32.toInt p1 < 0 ∨ Int32.toInt (q.1 2 2) ≤ Int32.toInt p1))) from ⟨rfl, by omega⟩)
  · have f_4 : 0 ≤ Int32.toInt (q.1 2 2) ∧ Int32.toInt (q.1 2 2) ≤ 6 := rg_2_2 hT
    refine dOk_le (A := Int32.toInt (q.1 2 2)) (B := Int32.toInt p1) rfl rfl (fun c_5 => ?_) (fun c_6 => ?_)
    · unfold zX8_isFloor_s2_16
      unfold zX8_isFloor_s2_17
      refine dOk_G (dbl_ok (show (0 : Int) = 0 ∨ (0 : Int) = 1 by omega)) ?_
      exact dOk_some (show (q = q) ∧ (((0 : Int) = 1 ∧ 0 ≤ Int32.toInt p1 ∧ Int32.toInt p1 < Int32.toInt (q.1 2 2)) ∨ ((0 : Int) = 0 ∧ (Int32.toInt p1 < 0 ∨ Int32.toInt (q.1 2 2) ≤ Int32.toInt p1))) from ⟨rfl, by omega⟩)
    · unfold zX8_isFloor_s2_17
      refine dOk_G (dbl_ok (show (1 : Int) = 0 ∨ (1 : Int) = 1 by omega)) ?_
      exact dOk_some (show (q = q) ∧ (((1 : Int) = 1 ∧ 0 ≤ Int32.toInt p1 ∧ Int32.toInt p1 < Int32.toInt (q.1 2 2)) ∨ ((1 : Int) = 0 ∧ (Int32.toInt p1 < 0 ∨ Int32.toInt (q.1 2 2) ≤ Int32.toInt p1))) from ⟨rfl, by omega⟩)

set_option maxHeartbeats 4000000 in
set_option maxRecDepth 100000 in
theorem ok_X8_tell_s2 (q : dK) (p1 : Int32) (p2 : Int32) (hT : TC q) : dOk (zX8_tell_s2 q p1 p2) (fun (o : Int32 × dK) => (o.2 = q) ∧ (-1 ≤ Int32.toInt o.1 ∧ Int32.toInt o.1 ≤ 7)) := by
  unfold zX8_tell_s2
  refine dOk_B (ok_X8_isFloor_s2 q p1 hT) (fun r_1 q_2 h_3 => ?_)
  replace h_3 : (q_2 = q) ∧ ((Int32.toInt r_1 = 1 ∧ 0 ≤ Int32.toInt p1 ∧ Int32.toInt p1 < Int32.toInt (q.1 2 2)) ∨ (Int32.toInt r_1 = 0 ∧ (Int32.toInt p1 < 0 ∨ Int32.toInt (q.1 2 2) ≤ Int32.toInt p1))) := h_3
  obtain ⟨i_4, i_5⟩ := h_3
  subst q_2
  have f_6 : 0 ≤ Int32.toInt (q.1 2 2) ∧ Int32.toInt (q.1 2 2) ≤ 6 := rg_2_2 hT
  refine dOk_eq (A := Int32.toInt r_1) (B := 0) rfl (by decide) (fun c_7z c_7 => ?_) (fun c_8z c_8 => ?_)
  · unfold zX8_tell_s2_15
    exact dOk_some (show (q = q) ∧ (-1 ≤ (-1 : Int) ∧ (-1 : Int) ≤ 7) from ⟨rfl, by omega⟩)
  · refine dOk_V (ok_X9_isBit p2) (fun r_10 h_11 => ?_)
    replace h_11 : ((Int32.toInt r_10 = 1 ∧ 0 ≤ Int32.toInt p2 ∧ Int32.toInt p2 ≤ 1) ∨ (Int32.toInt r_10 = 0 ∧ (Int32.toInt p2 < 0 ∨ 1 < Int32.toInt p2))) := h_11
    have i_12 := h_11
    refine dOk_eq (A := Int32.toInt r_10) (B := 0) rfl (by decide) (fun c_13z c_13 => ?_) (fun c_14z c_14 => ?_)
    · unfold zX8_tell_s2_15
      exact dOk_some (show (q = q) ∧ (-1 ≤ (-1 : Int) ∧ (-1 : Int) ≤ 7) from ⟨rfl, by omega⟩)
    · refine dOk_eq (A := Int32.toInt p2) (B := 0) rfl (by decide) (fun c_16z c_16 => ?_) (fun c_17z c_17 => ?_)
      · refine dOk_G (dg_ok (show 0 ≤ Int32.toInt p1 by omega) (show Int32.toInt p1 < ((6 : Nat) : Int) by omega)) ?_
        have n_19 : ((Int32.toNatClampNeg p1 : Nat) : Int) = Int32.toInt p1 := cl_eq (by omega)
        refine dOk_L (fun v_20 ev_20 => ?_)
        have f_21 : 0 ≤ Int32.toInt v_20 ∧ Int32.toInt v_20 ≤ 7 := by rw [ev_20]; exact rg_3 hT _
        unfold zX8_tell_s2_36
        exact dOk_some (show (q = q) ∧ (-1 ≤ Int32.toInt v_20 ∧ Int32.toInt v_20 ≤ 7) from ⟨rfl, by omega⟩)
      · refine dOk_G (dg_ok (show 0 ≤ Int32.toInt p1 by omega) (show Int32.toInt p1 < ((6 : Nat) : Int) by omega)) ?_
        have n_22 : ((Int32.toNatClampNeg p1 : Nat) : Int) = Int32.toInt p1 := cl_eq (by omega)
        refine dOk_L (fun v_23 ev_23 => ?_)
        have f_24 : 0 ≤ Int32.toInt v_23 ∧ Int32.toInt v_23 ≤ 1 := by rw [ev_23]; exact rg_4 hT _
        unfold zX8_tell_s2_36
        exact dOk_some (show (q = q) ∧ (-1 ≤ Int32.toInt v_23 ∧ Int32.toInt v_23 ≤ 7) from ⟨rfl, by omega⟩)

set_option maxHeartbeats 4000000 in
set_option maxRecDepth 100000 in
theorem ok_X8_exchange_s2 (q : dK) (p1 : Int32) (p2 : Int32) (hT : TC q) (hp0 : 0 ≤ Int32.toInt p1 ∧ Int32.toInt p1 ≤ 5) (hp1 : 0 ≤ Int32.toInt p2 ∧ Int32.toInt p2 ≤ 5) : dOk (zX8_exchange_s2 q p1 p2) (fun (o : dK) => (TC o) ∧ (cFr [3, 4] [] q o)) := by
  unfold zX8_exchange_s2
  refine dOk_G (dg_ok (show 0 ≤ Int32.toInt p1 by omega) (show Int32.toInt p1 < ((6 : Nat) : Int) by omega)) ?_
  have n_1 : ((Int32.toNatClampNeg p1 : Nat) : Int) = Int32.toInt p1 := cl_eq (by omega)
  refine dOk_L (fun v_2 ev_2 => ?_)
  have f_3 : 0 ≤ Int32.toInt v_2 ∧ Int32.toInt v_2 ≤ 7 := by rw [ev_2]; exact rg_3 hT _
  refine dOk_G (dg_ok (show 0 ≤ Int32.toInt p1 by omega) (show Int32.toInt p1 < ((6 : Nat) : Int) by omega)) ?_
  refine dOk_L (fun v_4 ev_4 => ?_)
  have f_5 : 0 ≤ Int32.toInt v_4 ∧ Int32.toInt v_4 ≤ 1 := by rw [ev_4]; exact rg_4 hT _
  refine dOk_G (dg_ok (show 0 ≤ Int32.toInt p2 by omega) (show Int32.toInt p2 < ((6 : Nat) : Int) by omega)) ?_
  have n_6 : ((Int32.toNatClampNeg p2 : Nat) : Int) = Int32.toInt p2 := cl_eq (by omega)
  refine dOk_L (fun v_7 ev_7 => ?_)
  have f_8 : 0 ≤ Int32.toInt v_7 ∧ Int32.toInt v_7 ≤ 7 := by rw [ev_7]; exact rg_3 hT _
  refine dOk_G (dg_ok (show 0 ≤ Int32.toInt p1 by omega) (show Int32.toInt p1 < ((6 : Nat) : Int) by omega)) ?_
  refine dOk_L (fun q_9 eq_9 => ?_)
  have hTq_9 : TC q_9 := by rw [eq_9]; exact st_3 hT (show (0 : Int) ≤ Int32.toInt v_7 by omega) (show Int32.toInt v_7 ≤ (7 : Int) by omega)
  have hFq_9 : cFr [3, 4] [] q q_9 := by rw [eq_9]; exact (cFr.rf (q := q)).i (by decide)
  refine dOk_G (dg_ok (show 0 ≤ Int32.toInt p2 by omega) (show Int32.toInt p2 < ((6 : Nat) : Int) by omega)) ?_
  refine dOk_L (fun v_10 ev_10 => ?_)
  have f_11 : 0 ≤ Int32.toInt v_10 ∧ Int32.toInt v_10 ≤ 1 := by rw [ev_10]; exact rg_4 hTq_9 _
  refine dOk_G (dg_ok (show 0 ≤ Int32.toInt p1 by omega) (show Int32.toInt p1 < ((6 : Nat) : Int) by omega)) ?_
  refine dOk_L (fun q_12 eq_12 => ?_)
  have hTq_12 : TC q_12 := by rw [eq_12]; exact st_4 hTq_9 (show (0 : Int) ≤ Int32.toInt v_10 by omega) (show Int32.toInt v_10 ≤ (1 : Int) by omega)
  have hFq_12 : cFr [3, 4] [] q q_12 := by rw [eq_12]; exact hFq_9.i (by decide)
  refine dOk_G (dg_ok (show 0 ≤ Int32.toInt p2 by omega) (show Int32.toInt p2 < ((6 : Nat) : Int) by omega)) ?_
  refine dOk_L (fun q_13 eq_13 => ?_)
  have hTq_13 : TC q_13 := by rw [eq_13]; exact st_3 hTq_12 (show (0 : Int) ≤ Int32.toInt v_2 by omega) (show Int32.toInt v_2 ≤ (7 : Int) by omega)
  have hFq_13 : cFr [3, 4] [] q q_13 := by rw [eq_13]; exact hFq_12.i (by decide)
  refine dOk_G (dg_ok (show 0 ≤ Int32.toInt p2 by omega) (show Int32.toInt p2 < ((6 : Nat) : Int) by omega)) ?_
  refine dOk_L (fun q_14 eq_14 => ?_)
  have hTq_14 : TC q_14 := by rw [eq_14]; exact st_4 hTq_13 (show (0 : Int) ≤ Int32.toInt v_4 by omega) (show Int32.toInt v_4 ≤ (1 : Int) by omega)
  have hFq_14 : cFr [3, 4] [] q q_14 := by rw [eq_14]; exact hFq_13.i (by decide)
  exact dOk_some (show (TC q_14) ∧ (cFr [3, 4] [] q q_14) from ⟨hTq_14, hFq_14⟩)

set_option maxHeartbeats 4000000 in
set_option maxRecDepth 100000 in
theorem ok_X8_rightAt_s2 (q : dK) (p1 : Int32) (hT : TC q) : dOk (zX8_rightAt_s2 q p1) (fun (o : Int32 × dK) => (TC o.2) ∧ (cFr [4] [] q o.2) ∧ (-3 ≤ Int32.toInt o.1 ∧ Int32.toInt o.1 ≤ 1)) := by
  unfold zX8_rightAt_s2
  refine dOk_lt (A := Int32.toInt p1) (B := 0) rfl (by decide) (fun c_1 => ?_) (fun c_2 => ?_)
  · unfold zX8_rightAt_s2_10
    exact dOk_some (show (TC q) ∧ (cFr [4] [] q q) ∧ (-3 ≤ (-1 : Int) ∧ (-1 : Int) ≤ 1) from ⟨hT, (cFr.rf (q := q)), by omega⟩)
  · refine dOk_lt (A := Int32.toInt p1) (B := 6) rfl (by decide) (fun c_3 => ?_) (fun c_4 => ?_)
    · refine dOk_B (ok_X8_isFloor_s2 q p1 hT) (fun r_5 q_6 h_7 => ?_)
      replace h_7 : (q_6 = q) ∧ ((Int32.toInt r_5 = 1 ∧ 0 ≤ Int32.toInt p1 ∧ Int32.toInt p1 < Int32.toInt (q.1 2 2)) ∨ (Int32.toInt r_5 = 0 ∧ (Int32.toInt p1 < 0 ∨ Int32.toInt (q.1 2 2) ≤ Int32.toInt p1))) := h_7
      obtain ⟨i_8, i_9⟩ := h_7
      subst q_6
      have f_10 : 0 ≤ Int32.toInt (q.1 2 2) ∧ Int32.toInt (q.1 2 2) ≤ 6 := rg_2_2 hT
      refine dOk_eq (A := Int32.toInt r_5) (B := 0) rfl (by decide) (fun c_11z c_11 => ?_) (fun c_12z c_12 => ?_)
      · exact dOk_some (show (TC q) ∧ (cFr [4] [] q q) ∧ (-3 ≤ (-3 : Int) ∧ (-3 : Int) ≤ 1) from ⟨hT, (cFr.rf (q := q)), by omega⟩)
      · refine dOk_G (dg_ok (show 0 ≤ Int32.toInt p1 by omega) (show Int32.toInt p1 < ((6 : Nat) : Int) by omega)) ?_
        have n_14 : ((Int32.toNatClampNeg p1 : Nat) : Int) = Int32.toInt p1 := cl_eq (by omega)
        refine dOk_L (fun v_15 ev_15 => ?_)
        have f_16 : 0 ≤ Int32.toInt v_15 ∧ Int32.toInt v_15 ≤ 1 := by rw [ev_15]; exact rg_4 hT _
        refine dOk_G (dg_ok (show 0 ≤ Int32.toInt p1 by omega) (show Int32.toInt p1 < ((6 : Nat) : Int) by omega)) ?_
        refine dOk_L (fun q_17 eq_17 => ?_)
        try have t_18 : Int32.toInt (1 - v_15) = 1 - Int32.toInt v_15 := ti_sub (by decide) rfl (by omega) (by omega)
        have hTq_17 : TC q_17 := by rw [eq_17]; exact st_4 hT (show (0 : Int) ≤ Int32.toInt (1 - v_15) by omega) (show Int32.toInt (1 - v_15) ≤ (1 : Int) by omega)
        have hFq_17 : cFr [4] [] q q_17 := by rw [eq_17]; exact (cFr.rf (q := q)).i (by decide)
        refine dOk_G (dg_ok (show 0 ≤ Int32.toInt p1 by omega) (show Int32.toInt p1 < ((6 : Nat) : Int) by omega)) ?_
        refine dOk_L (fun v_19 ev_19 => ?_)
        have f_20 : 0 ≤ Int32.toInt v_19 ∧ Int32.toInt v_19 ≤ 1 := by rw [ev_19]; exact rg_4 hTq_17 _
        exact dOk_some (show (TC q_17) ∧ (cFr [4] [] q q_17) ∧ (-3 ≤ Int32.toInt v_19 ∧ Int32.toInt v_19 ≤ 1) from ⟨hTq_17, hFq_17, by omega⟩)
    · unfold zX8_rightAt_s2_10
      exact dOk_some (show (TC q) ∧ (cFr [4] [] q q) ∧ (-3 ≤ (-1 : Int) ∧ (-1 : Int) ≤ 1) from ⟨hT, (cFr.rf (q := q)), by omega⟩)

set_option maxHeartbeats 4000000 in
set_option maxRecDepth 100000 in
theorem ok_X8_swapAt_s2 (q : dK) (p1 : Int32) (hT : TC q) : dOk (zX8_swapAt_s2 q p1) (fun (o : Int32 × dK) => (TC o.2) ∧ (cFr [3, 4] [] q o.2) ∧ (-3 ≤ Int32.toInt o.1 ∧ Int32.toInt o.1 ≤ 7)) := by
  unfold zX8_swapAt_s2
  refine dOk_lt (A := Int32.toInt p1) (B := 0) rfl (by decide) (fun c_1 => ?_) (fun c_2 => ?_)
  · unfold zX8_swapAt_s2_9
    exact dOk_some (show (TC q) ∧ (cFr [3, 4] [] q q) ∧ (-3 ≤ (-1 : Int) ∧ (-1 : Int) ≤ 7) from ⟨hT, (cFr.rf (q := q)), by omega⟩)
  · refine dOk_lt (A := Int32.toInt p1) (B := 5) rfl (by decide) (fun c_3 => ?_) (fun c_4 => ?_)
    · try have t_5 : Int32.toInt (p1 + 1) = Int32.toInt p1 + 1 := ti_add rfl (by decide) (by omega) (by omega)
      refine dOk_B (ok_X8_isFloor_s2 q (p1 + 1) hT) (fun r_6 q_7 h_8 => ?_)
      replace h_8 : (q_7 = q) ∧ ((Int32.toInt r_6 = 1 ∧ 0 ≤ Int32.toInt (p1 + 1) ∧ Int32.toInt (p1 + 1) < Int32.toInt (q.1 2 2)) ∨ (Int32.toInt r_6 = 0 ∧ (Int32.toInt (p1 + 1) < 0 ∨ Int32.toInt (q.1 2 2) ≤ Int32.toInt (p1 + 1)))) := h_8
      obtain ⟨i_9, i_10⟩ := h_8
      subst q_7
      have f_11 : 0 ≤ Int32.toInt (q.1 2 2) ∧ Int32.toInt (q.1 2 2) ≤ 6 := rg_2_2 hT
      refine dOk_eq (A := Int32.toInt r_6) (B := 0) rfl (by decide) (fun c_12z c_12 => ?_) (fun c_13z c_13 => ?_)
      · exact dOk_some (show (TC q) ∧ (cFr [3, 4] [] q q) ∧ (-3 ≤ (-3 : Int) ∧ (-3 : Int) ≤ 7) from ⟨hT, (cFr.rf (q := q)), by omega⟩)
      · refine dOk_V (ok_X8_exchange_s2 q p1 (p1 + 1) hT (show 0 ≤ Int32.toInt p1 ∧ Int32.toInt p1 ≤ 5 by omega) (show 0 ≤ Int32.toInt (p1 + 1) ∧ Int32.toInt (p1 + 1) ≤ 5 by omega)) (fun q_15 h_16 => ?_)
        replace h_16 : (TC q_15) ∧ (cFr [3, 4] [] q q_15) := h_16
        obtain ⟨i_17, i_18⟩ := h_16
        have hFq_15 : cFr [3, 4] [] q q_15 := (cFr.rf (q := q)).t i_18 (by decide) (by decide)
        refine dOk_G (dg_ok (show 0 ≤ Int32.toInt p1 by omega) (show Int32.toInt p1 < ((6 : Nat) : Int) by omega)) ?_
        have n_19 : ((Int32.toNatClampNeg p1 : Nat) : Int) = Int32.toInt p1 := cl_eq (by omega)
        refine dOk_L (fun v_20 ev_20 => ?_)
        have f_21 : 0 ≤ Int32.toInt v_20 ∧ Int32.toInt v_20 ≤ 7 := by rw [ev_20]; exact rg_3 i_17 _
        exact dOk_some (show (TC q_15) ∧ (cFr [3, 4] [] q q_15) ∧ (-3 ≤ Int32.toInt v_20 ∧ Int32.toInt v_20 ≤ 7) from ⟨i_17, hFq_15, by omega⟩)
    · unfold zX8_swapAt_s2_9
      exact dOk_some (show (TC q) ∧ (cFr [3, 4] [] q q) ∧ (-3 ≤ (-1 : Int) ∧ (-1 : Int) ≤ 7) from ⟨hT, (cFr.rf (q := q)), by omega⟩)

set_option maxHeartbeats 4000000 in
set_option maxRecDepth 100000 in
theorem ok_X8_isFloor_s15 (q : dK) (p1 : Int32) (hT : TC q) : dOk (zX8_isFloor_s15 q p1) (fun (o : Int32 × dK) => (o.2 = q) ∧ ((Int32.toInt o.1 = 1 ∧ 0 ≤ Int32.toInt p1 ∧ Int32.toInt p1 < Int32.toInt (q.1 15 2)) ∨ (Int32.toInt o.1 = 0 ∧ (Int32.toInt p1 < 0 ∨ Int32.toInt (q.1 15 2) ≤ Int32.toInt p1)))) := by
  unfold zX8_isFloor_s15
  refine dOk_lt (A := Int32.toInt p1) (B := 0) rfl (by decide) (fun c_1 => ?_) (fun c_2 => ?_)
  · unfold zX8_isFloor_s15_16
    unfold zX8_isFloor_s15_17
    refine dOk_G (dbl_ok (show (0 : Int) = 0 ∨ (0 : Int) = 1 by omega)) ?_
    have f_3 : 0 ≤ Int32.toInt (q.1 15 2) ∧ Int32.toInt (q.1 15 2) ≤ 6 := rg_15_2 hT
    exact dOk_some (show (q = q) ∧ (((0 : Int) = 1 ∧ 0 ≤ Int32.toInt p1 ∧ Int32.toInt p1 < Int32.toInt (q.1 15 2)) ∨ ((0 : Int) = 0 ∧ (Int32.toInt p1 < 0 ∨ Int32.toInt (q.1 15 2) ≤ Int32.toInt p1))) from ⟨rfl, by omega⟩)
  · have f_4 : 0 ≤ Int32.toInt (q.1 15 2) ∧ Int32.toInt (q.1 15 2) ≤ 6 := rg_15_2 hT
    refine dOk_le (A := Int32.toInt (q.1 15 2)) (B := Int32.toInt p1) rfl rfl (fun c_5 => ?_) (fun c_6 => ?_)
    · unfold zX8_isFloor_s15_16
      unfold zX8_isFloor_s15_17
      refine dOk_G (dbl_ok (show (0 : Int) = 0 ∨ (0 : Int) = 1 by omega)) ?_
      exact dOk_some (show (q = q) ∧ (((0 : Int) = 1 ∧ 0 ≤ Int32.toInt p1 ∧ Int32.toInt p1 < Int32.toInt (q.1 15 2)) ∨ ((0 : Int) = 0 ∧ (Int32.toInt p1 < 0 ∨ Int32.toInt (q.1 15 2) ≤ Int32.toInt p1))) from ⟨rfl, by omega⟩)
    · unfold zX8_isFloor_s15_17
      refine dOk_G (dbl_ok (show (1 : Int) = 0 ∨ (1 : Int) = 1 by omega)) ?_
      exact dOk_some (show (q = q) ∧ (((1 : Int) = 1 ∧ 0 ≤ Int32.toInt p1 ∧ Int32.toInt p1 < Int32.toInt (q.1 15 2)) ∨ ((1 : Int) = 0 ∧ (Int32.toInt p1 < 0 ∨ Int32.toInt (q.1 15 2) ≤ Int32.toInt p1))) from ⟨rfl, by omega⟩)

set_option maxHeartbeats 4000000 in
set_option maxRecDepth 100000 in
theorem ok_X8_tell_s15 (q : dK) (p1 : Int32) (p2 : Int32) (hT : TC q) : dOk (zX8_tell_s15 q p1 p2) (fun (o : Int32 × dK) => (o.2 = q) ∧ (-1 ≤ Int32.toInt o.1 ∧ Int32.toInt o.1 ≤ 7)) := by
  unfold zX8_tell_s15
  refine dOk_B (ok_X8_isFloor_s15 q p1 hT) (fun r_1 q_2 h_3 => ?_)
  replace h_3 : (q_2 = q) ∧ ((Int32.toInt r_1 = 1 ∧ 0 ≤ Int32.toInt p1 ∧ Int32.toInt p1 < Int32.toInt (q.1 15 2)) ∨ (Int32.toInt r_1 = 0 ∧ (Int32.toInt p1 < 0 ∨ Int32.toInt (q.1 15 2) ≤ Int32.toInt p1))) := h_3
  obtain ⟨i_4, i_5⟩ := h_3
  subst q_2
  have f_6 : 0 ≤ Int32.toInt (q.1 15 2) ∧ Int32.toInt (q.1 15 2) ≤ 6 := rg_15_2 hT
  refine dOk_eq (A := Int32.toInt r_1) (B := 0) rfl (by decide) (fun c_7z c_7 => ?_) (fun c_8z c_8 => ?_)
  · unfold zX8_tell_s15_15
    exact dOk_some (show (q = q) ∧ (-1 ≤ (-1 : Int) ∧ (-1 : Int) ≤ 7) from ⟨rfl, by omega⟩)
  · refine dOk_V (ok_X9_isBit p2) (fun r_10 h_11 => ?_)
    replace h_11 : ((Int32.toInt r_10 = 1 ∧ 0 ≤ Int32.toInt p2 ∧ Int32.toInt p2 ≤ 1) ∨ (Int32.toInt r_10 = 0 ∧ (Int32.toInt p2 < 0 ∨ 1 < Int32.toInt p2))) := h_11
    have i_12 := h_11
    refine dOk_eq (A := Int32.toInt r_10) (B := 0) rfl (by decide) (fun c_13z c_13 => ?_) (fun c_14z c_14 => ?_)
    · unfold zX8_tell_s15_15
      exact dOk_some (show (q = q) ∧ (-1 ≤ (-1 : Int) ∧ (-1 : Int) ≤ 7) from ⟨rfl, by omega⟩)
    · refine dOk_eq (A := Int32.toInt p2) (B := 0) rfl (by decide) (fun c_16z c_16 => ?_) (fun c_17z c_17 => ?_)
      · refine dOk_G (dg_ok (show 0 ≤ Int32.toInt p1 by omega) (show Int32.toInt p1 < ((6 : Nat) : Int) by omega)) ?_
        have n_19 : ((Int32.toNatClampNeg p1 : Nat) : Int) = Int32.toInt p1 := cl_eq (by omega)
        refine dOk_L (fun v_20 ev_20 => ?_)
        have f_21 : 0 ≤ Int32.toInt v_20 ∧ Int32.toInt v_20 ≤ 7 := by rw [ev_20]; exact rg_16 hT _
        unfold zX8_tell_s15_36
        exact dOk_some (show (q = q) ∧ (-1 ≤ Int32.toInt v_20 ∧ Int32.toInt v_20 ≤ 7) from ⟨rfl, by omega⟩)
      · refine dOk_G (dg_ok (show 0 ≤ Int32.toInt p1 by omega) (show Int32.toInt p1 < ((6 : Nat) : Int) by omega)) ?_
        have n_22 : ((Int32.toNatClampNeg p1 : Nat) : Int) = Int32.toInt p1 := cl_eq (by omega)
        refine dOk_L (fun v_23 ev_23 => ?_)
        have f_24 : 0 ≤ Int32.toInt v_23 ∧ Int32.toInt v_23 ≤ 1 := by rw [ev_23]; exact rg_17 hT _
        unfold zX8_tell_s15_36
        exact dOk_some (show (q = q) ∧ (-1 ≤ Int32.toInt v_23 ∧ Int32.toInt v_23 ≤ 7) from ⟨rfl, by omega⟩)

set_option maxHeartbeats 4000000 in
set_option maxRecDepth 100000 in
theorem ok_X8_exchange_s15 (q : dK) (p1 : Int32) (p2 : Int32) (hT : TC q) (hp0 : 0 ≤ Int32.toInt p1 ∧ Int32.toInt p1 ≤ 5) (hp1 : 0 ≤ Int32.toInt p2 ∧ Int32.toInt p2 ≤ 5) : dOk (zX8_exchange_s15 q p1 p2) (fun (o : dK) => (TC o) ∧ (cFr [16, 17] [] q o)) := by
  unfold zX8_exchange_s15
  refine dOk_G (dg_ok (show 0 ≤ Int32.toInt p1 by omega) (show Int32.toInt p1 < ((6 : Nat) : Int) by omega)) ?_
  have n_1 : ((Int32.toNatClampNeg p1 : Nat) : Int) = Int32.toInt p1 := cl_eq (by omega)
  refine dOk_L (fun v_2 ev_2 => ?_)
  have f_3 : 0 ≤ Int32.toInt v_2 ∧ Int32.toInt v_2 ≤ 7 := by rw [ev_2]; exact rg_16 hT _
  refine dOk_G (dg_ok (show 0 ≤ Int32.toInt p1 by omega) (show Int32.toInt p1 < ((6 : Nat) : Int) by omega)) ?_
  refine dOk_L (fun v_4 ev_4 => ?_)
  have f_5 : 0 ≤ Int32.toInt v_4 ∧ Int32.toInt v_4 ≤ 1 := by rw [ev_4]; exact rg_17 hT _
  refine dOk_G (dg_ok (show 0 ≤ Int32.toInt p2 by omega) (show Int32.toInt p2 < ((6 : Nat) : Int) by omega)) ?_
  have n_6 : ((Int32.toNatClampNeg p2 : Nat) : Int) = Int32.toInt p2 := cl_eq (by omega)
  refine dOk_L (fun v_7 ev_7 => ?_)
  have f_8 : 0 ≤ Int32.toInt v_7 ∧ Int32.toInt v_7 ≤ 7 := by rw [ev_7]; exact rg_16 hT _
  refine dOk_G (dg_ok (show 0 ≤ Int32.toInt p1 by omega) (show Int32.toInt p1 < ((6 : Nat) : Int) by omega)) ?_
  refine dOk_L (fun q_9 eq_9 => ?_)
  have hTq_9 : TC q_9 := by rw [eq_9]; exact st_16 hT (show (0 : Int) ≤ Int32.toInt v_7 by omega) (show Int32.toInt v_7 ≤ (7 : Int) by omega)
  have hFq_9 : cFr [16, 17] [] q q_9 := by rw [eq_9]; exact (cFr.rf (q := q)).i (by decide)
  refine dOk_G (dg_ok (show 0 ≤ Int32.toInt p2 by omega) (show Int32.toInt p2 < ((6 : Nat) : Int) by omega)) ?_
  refine dOk_L (fun v_10 ev_10 => ?_)
  have f_11 : 0 ≤ Int32.toInt v_10 ∧ Int32.toInt v_10 ≤ 1 := by rw [ev_10]; exact rg_17 hTq_9 _
  refine dOk_G (dg_ok (show 0 ≤ Int32.toInt p1 by omega) (show Int32.toInt p1 < ((6 : Nat) : Int) by omega)) ?_
  refine dOk_L (fun q_12 eq_12 => ?_)
  have hTq_12 : TC q_12 := by rw [eq_12]; exact st_17 hTq_9 (show (0 : Int) ≤ Int32.toInt v_10 by omega) (show Int32.toInt v_10 ≤ (1 : Int) by omega)
  have hFq_12 : cFr [16, 17] [] q q_12 := by rw [eq_12]; exact hFq_9.i (by decide)
  refine dOk_G (dg_ok (show 0 ≤ Int32.toInt p2 by omega) (show Int32.toInt p2 < ((6 : Nat) : Int) by omega)) ?_
  refine dOk_L (fun q_13 eq_13 => ?_)
  have hTq_13 : TC q_13 := by rw [eq_13]; exact st_16 hTq_12 (show (0 : Int) ≤ Int32.toInt v_2 by omega) (show Int32.toInt v_2 ≤ (7 : Int) by omega)
  have hFq_13 : cFr [16, 17] [] q q_13 := by rw [eq_13]; exact hFq_12.i (by decide)
  refine dOk_G (dg_ok (show 0 ≤ Int32.toInt p2 by omega) (show Int32.toInt p2 < ((6 : Nat) : Int) by omega)) ?_
  refine dOk_L (fun q_14 eq_14 => ?_)
  have hTq_14 : TC q_14 := by rw [eq_14]; exact st_17 hTq_13 (show (0 : Int) ≤ Int32.toInt v_4 by omega) (show Int32.toInt v_4 ≤ (1 : Int) by omega)
  have hFq_14 : cFr [16, 17] [] q q_14 := by rw [eq_14]; exact hFq_13.i (by decide)
  exact dOk_some (show (TC q_14) ∧ (cFr [16, 17] [] q q_14) from ⟨hTq_14, hFq_14⟩)

set_option maxHeartbeats 4000000 in
set_option maxRecDepth 100000 in
theorem ok_X8_rightAt_s15 (q : dK) (p1 : Int32) (hT : TC q) : dOk (zX8_rightAt_s15 q p1) (fun (o : Int32 × dK) => (TC o.2) ∧ (cFr [17] [] q o.2) ∧ (-3 ≤ Int32.toInt o.1 ∧ Int32.toInt o.1 ≤ 1)) := by
  unfold zX8_rightAt_s15
  refine dOk_lt (A := Int32.toInt p1) (B := 0) rfl (by decide) (fun c_1 => ?_) (fun c_2 => ?_)
  · unfold zX8_rightAt_s15_10
    exact dOk_some (show (TC q) ∧ (cFr [17] [] q q) ∧ (-3 ≤ (-1 : Int) ∧ (-1 : Int) ≤ 1) from ⟨hT, (cFr.rf (q := q)), by omega⟩)
  · refine dOk_lt (A := Int32.toInt p1) (B := 6) rfl (by decide) (fun c_3 => ?_) (fun c_4 => ?_)
    · refine dOk_B (ok_X8_isFloor_s15 q p1 hT) (fun r_5 q_6 h_7 => ?_)
      replace h_7 : (q_6 = q) ∧ ((Int32.toInt r_5 = 1 ∧ 0 ≤ Int32.toInt p1 ∧ Int32.toInt p1 < Int32.toInt (q.1 15 2)) ∨ (Int32.toInt r_5 = 0 ∧ (Int32.toInt p1 < 0 ∨ Int32.toInt (q.1 15 2) ≤ Int32.toInt p1))) := h_7
      obtain ⟨i_8, i_9⟩ := h_7
      subst q_6
      have f_10 : 0 ≤ Int32.toInt (q.1 15 2) ∧ Int32.toInt (q.1 15 2) ≤ 6 := rg_15_2 hT
      refine dOk_eq (A := Int32.toInt r_5) (B := 0) rfl (by decide) (fun c_11z c_11 => ?_) (fun c_12z c_12 => ?_)
      · exact dOk_some (show (TC q) ∧ (cFr [17] [] q q) ∧ (-3 ≤ (-3 : Int) ∧ (-3 : Int) ≤ 1) from ⟨hT, (cFr.rf (q := q)), by omega⟩)
      · refine dOk_G (dg_ok (show 0 ≤ Int32.toInt p1 by omega) (show Int32.toInt p1 < ((6 : Nat) : Int) by omega)) ?_
        have n_14 : ((Int32.toNatClampNeg p1 : Nat) : Int) = Int32.toInt p1 := cl_eq (by omega)
        refine dOk_L (fun v_15 ev_15 => ?_)
        have f_16 : 0 ≤ Int32.toInt v_15 ∧ Int32.toInt v_15 ≤ 1 := by rw [ev_15]; exact rg_17 hT _
        refine dOk_G (dg_ok (show 0 ≤ Int32.toInt p1 by omega) (show Int32.toInt p1 < ((6 : Nat) : Int) by omega)) ?_
        refine dOk_L (fun q_17 eq_17 => ?_)
        try have t_18 : Int32.toInt (1 - v_15) = 1 - Int32.toInt v_15 := ti_sub (by decide) rfl (by omega) (by omega)
        have hTq_17 : TC q_17 := by rw [eq_17]; exact st_17 hT (show (0 : Int) ≤ Int32.toInt (1 - v_15) by omega) (show Int32.toInt (1 - v_15) ≤ (1 : Int) by omega)
        have hFq_17 : cFr [17] [] q q_17 := by rw [eq_17]; exact (cFr.rf (q := q)).i (by decide)
        refine dOk_G (dg_ok (show 0 ≤ Int32.toInt p1 by omega) (show Int32.toInt p1 < ((6 : Nat) : Int) by omega)) ?_
        refine dOk_L (fun v_19 ev_19 => ?_)
        have f_20 : 0 ≤ Int32.toInt v_19 ∧ Int32.toInt v_19 ≤ 1 := by rw [ev_19]; exact rg_17 hTq_17 _
        exact dOk_some (show (TC q_17) ∧ (cFr [17] [] q q_17) ∧ (-3 ≤ Int32.toInt v_19 ∧ Int32.toInt v_19 ≤ 1) from ⟨hTq_17, hFq_17, by omega⟩)
    · unfold zX8_rightAt_s15_10
      exact dOk_some (show (TC q) ∧ (cFr [17] [] q q) ∧ (-3 ≤ (-1 : Int) ∧ (-1 : Int) ≤ 1) from ⟨hT, (cFr.rf (q := q)), by omega⟩)

set_option maxHeartbeats 4000000 in
set_option maxRecDepth 100000 in
theorem ok_X8_swapAt_s15 (q : dK) (p1 : Int32) (hT : TC q) : dOk (zX8_swapAt_s15 q p1) (fun (o : Int32 × dK) => (TC o.2) ∧ (cFr [16, 17] [] q o.2) ∧ (-3 ≤ Int32.toInt o.1 ∧ Int32.toInt o.1 ≤ 7)) := by
  unfold zX8_swapAt_s15
  refine dOk_lt (A := Int32.toInt p1) (B := 0) rfl (by decide) (fun c_1 => ?_) (fun c_2 => ?_)
  · unfold zX8_swapAt_s15_9
    exact dOk_some (show (TC q) ∧ (cFr [16, 17] [] q q) ∧ (-3 ≤ (-1 : Int) ∧ (-1 : Int) ≤ 7) from ⟨hT, (cFr.rf (q := q)), by omega⟩)
  · refine dOk_lt (A := Int32.toInt p1) (B := 5) rfl (by decide) (fun c_3 => ?_) (fun c_4 => ?_)
    · try have t_5 : Int32.toInt (p1 + 1) = Int32.toInt p1 + 1 := ti_add rfl (by decide) (by omega) (by omega)
      refine dOk_B (ok_X8_isFloor_s15 q (p1 + 1) hT) (fun r_6 q_7 h_8 => ?_)
      replace h_8 : (q_7 = q) ∧ ((Int32.toInt r_6 = 1 ∧ 0 ≤ Int32.toInt (p1 + 1) ∧ Int32.toInt (p1 + 1) < Int32.toInt (q.1 15 2)) ∨ (Int32.toInt r_6 = 0 ∧ (Int32.toInt (p1 + 1) < 0 ∨ Int32.toInt (q.1 15 2) ≤ Int32.toInt (p1 + 1)))) := h_8
      obtain ⟨i_9, i_10⟩ := h_8
      subst q_7
      have f_11 : 0 ≤ Int32.toInt (q.1 15 2) ∧ Int32.toInt (q.1 15 2) ≤ 6 := rg_15_2 hT
      refine dOk_eq (A := Int32.toInt r_6) (B := 0) rfl (by decide) (fun c_12z c_12 => ?_) (fun c_13z c_13 => ?_)
      · exact dOk_some (show (TC q) ∧ (cFr [16, 17] [] q q) ∧ (-3 ≤ (-3 : Int) ∧ (-3 : Int) ≤ 7) from ⟨hT, (cFr.rf (q := q)), by omega⟩)
      · refine dOk_V (ok_X8_exchange_s15 q p1 (p1 + 1) hT (show 0 ≤ Int32.toInt p1 ∧ Int32.toInt p1 ≤ 5 by omega) (show 0 ≤ Int32.toInt (p1 + 1) ∧ Int32.toInt (p1 + 1) ≤ 5 by omega)) (fun q_15 h_16 => ?_)
        replace h_16 : (TC q_15) ∧ (cFr [16, 17] [] q q_15) := h_16
        obtain ⟨i_17, i_18⟩ := h_16
        have hFq_15 : cFr [16, 17] [] q q_15 := (cFr.rf (q := q)).t i_18 (by decide) (by decide)
        refine dOk_G (dg_ok (show 0 ≤ Int32.toInt p1 by omega) (show Int32.toInt p1 < ((6 : Nat) : Int) by omega)) ?_
        have n_19 : ((Int32.toNatClampNeg p1 : Nat) : Int) = Int32.toInt p1 := cl_eq (by omega)
        refine dOk_L (fun v_20 ev_20 => ?_)
        have f_21 : 0 ≤ Int32.toInt v_20 ∧ Int32.toInt v_20 ≤ 7 := by rw [ev_20]; exact rg_16 i_17 _
        exact dOk_some (show (TC q_15) ∧ (cFr [16, 17] [] q q_15) ∧ (-3 ≤ Int32.toInt v_20 ∧ Int32.toInt v_20 ≤ 7) from ⟨i_17, hFq_15, by omega⟩)
    · unfold zX8_swapAt_s15_9
      exact dOk_some (show (TC q) ∧ (cFr [16, 17] [] q q) ∧ (-3 ≤ (-1 : Int) ∧ (-1 : Int) ≤ 7) from ⟨hT, (cFr.rf (q := q)), by omega⟩)

set_option maxHeartbeats 4000000 in
set_option maxRecDepth 100000 in
theorem ok_X8_has_s2 (q : dK) (p1 : Int32) (hT : TC q) : dOk (zX8_has_s2 q p1) (fun (o : Int32 × dK) => (o.2 = q) ∧ ((Int32.toInt o.1 = 0 ∨ Int32.toInt o.1 = 1))) := by
  unfold zX8_has_s2
  unfold zX8_has_s2_2
  refine dFix_ok (fun (a : dK × Int32 × Int32) => (a.1 = q) ∧ (a.2.1 = p1) ∧ (0 ≤ Int32.toInt a.2.2) ∧ (Int32.toInt a.2.2 ≤ 6)) (fun (a : dK × Int32 × Int32) => (6 - Int32.toInt a.2.2).toNat) ?_ _ ?_ _ (dF_gt ?_)
  · intro a ha k_2 hk_1
    obtain ⟨q_3, x1_4, x2_5⟩ := a
    replace ha : (q_3 = q) ∧ (x1_4 = p1) ∧ (0 ≤ Int32.toInt x2_5) ∧ (Int32.toInt x2_5 ≤ 6) := ha
    obtain ⟨a_6, a_7, a_8, a_9⟩ := ha
    show dOk (zX8_has_s2_2b  (fun q x1 x2 => k_2 (q, x1, x2)) q_3 x1_4 x2_5) _
    unfold zX8_has_s2_2b
    subst q_3
    subst x1_4
    have f_10 : 0 ≤ Int32.toInt (q.1 2 2) ∧ Int32.toInt (q.1 2 2) ≤ 6 := rg_2_2 hT
    refine dOk_le (A := Int32.toInt (q.1 2 2)) (B := Int32.toInt x2_5) rfl rfl (fun c_11 => ?_) (fun c_12 => ?_)
    · exact dOk_some (show (q = q) ∧ (((0 : Int) = 0 ∨ (0 : Int) = 1)) from ⟨rfl, by omega⟩)
    · refine dOk_G (dg_ok (show 0 ≤ Int32.toInt x2_5 by omega) (show Int32.toInt x2_5 < ((6 : Nat) : Int) by omega)) ?_
      have n_13 : ((Int32.toNatClampNeg x2_5 : Nat) : Int) = Int32.toInt x2_5 := cl_eq (by omega)
      refine dOk_L (fun v_14 ev_14 => ?_)
      have f_15 : 0 ≤ Int32.toInt v_14 ∧ Int32.toInt v_14 ≤ 7 := by rw [ev_14]; exact rg_3 hT _
      refine dOk_eq (A := Int32.toInt v_14) (B := Int32.toInt p1) rfl rfl (fun c_16z c_16 => ?_) (fun c_17z c_17 => ?_)
      · exact dOk_some (show (q = q) ∧ (((1 : Int) = 0 ∨ (1 : Int) = 1)) from ⟨rfl, by omega⟩)
      · try have t_19 : Int32.toInt (x2_5 + 1) = Int32.toInt x2_5 + 1 := ti_add rfl (by decide) (by omega) (by omega)
        exact hk_1 (q, p1, (x2_5 + 1)) (show (q = q) ∧ (p1 = p1) ∧ (0 ≤ Int32.toInt (x2_5 + 1)) ∧ (Int32.toInt (x2_5 + 1) ≤ 6) from ⟨rfl, rfl, by omega, by omega⟩) (show (6 - Int32.toInt (x2_5 + 1)).toNat < (6 - Int32.toInt x2_5).toNat by omega)
  · exact (show (q = q) ∧ (p1 = p1) ∧ (0 ≤ (0 : Int)) ∧ ((0 : Int) ≤ 6) from ⟨rfl, rfl, by omega, by omega⟩)
  · show (6 - (0 : Int)).toNat < 1000000000000
    omega
end
section
set_option maxHeartbeats 4000000 in
set_option maxRecDepth 100000 in
theorem ok_X8_add_s2 (q : dK) (p1 : Int32) (p2 : Int32) (hT : TC q) (hp0 : 0 ≤ Int32.toInt p1 ∧ Int32.toInt p1 ≤ 7) (hp1 : 0 ≤ Int32.toInt p2 ∧ Int32.toInt p2 ≤ 1) : dOk (zX8_add_s2 q p1 p2) (fun (o : Int32 × dK) => (TC o.2) ∧ (cFr [3, 4] [(2, 2)] q o.2) ∧ ((Int32.toInt o.1 = 0 ∨ Int32.toInt o.1 = 1))) := by
  unfold zX8_add_s2
  have f_1 : 0 ≤ Int32.toInt (q.1 2 2) ∧ Int32.toInt (q.1 2 2) ≤ 6 := rg_2_2 hT
  refine dOk_lt (A := Int32.toInt (q.1 2 2)) (B := 6) rfl (by decide) (fun c_2 => ?_) (fun c_3 => ?_)
  · refine dOk_G (dg_ok (show 0 ≤ Int32.toInt (q.1 2 2) by omega) (show Int32.toInt (q.1 2 2) < ((6 : Nat) : Int) by omega)) ?_
    have n_4 : ((Int32.toNatClampNeg (q.1 2 2) : Nat) : Int) = Int32.toInt (q.1 2 2) := cl_eq (by omega)
    refine dOk_L (fun q_5 eq_5 => ?_)
    have hTq_5 : TC q_5 := by rw [eq_5]; exact st_3 hT (show (0 : Int) ≤ Int32.toInt p1 by omega) (show Int32.toInt p1 ≤ (7 : Int) by omega)
    have hFq_5 : cFr [3, 4] [(2, 2)] q q_5 := by rw [eq_5]; exact (cFr.rf (q := q)).i (by decide)
    have f_6 : 0 ≤ Int32.toInt (q_5.1 2 2) ∧ Int32.toInt (q_5.1 2 2) ≤ 6 := rg_2_2 hTq_5
    try have w_7 : Int32.toInt (q_5.1 2 2) = Int32.toInt (q.1 2 2) := by rw [eq_5, cui_o (by decide)]
    refine dOk_G (dg_ok (show 0 ≤ Int32.toInt (q_5.1 2 2) by omega) (show Int32.toInt (q_5.1 2 2) < ((6 : Nat) : Int) by omega)) ?_
    have n_8 : ((Int32.toNatClampNeg (q_5.1 2 2) : Nat) : Int) = Int32.toInt (q_5.1 2 2) := cl_eq (by omega)
    refine dOk_L (fun q_9 eq_9 => ?_)
    have hTq_9 : TC q_9 := by rw [eq_9]; exact st_4 hTq_5 (show (0 : Int) ≤ Int32.toInt p2 by omega) (show Int32.toInt p2 ≤ (1 : Int) by omega)
    have hFq_9 : cFr [3, 4] [(2, 2)] q q_9 := by rw [eq_9]; exact hFq_5.i (by decide)
    refine dOk_L (fun q_10 eq_10 => ?_)
    have f_11 : 0 ≤ Int32.toInt (q_9.1 2 2) ∧ Int32.toInt (q_9.1 2 2) ≤ 6 := rg_2_2 hTq_9
    try have w_12 : Int32.toInt (q_9.1 2 2) = Int32.toInt (q_5.1 2 2) := by rw [eq_9, cui_o (by decide)]
    try have t_13 : Int32.toInt (q_9.1 2 2 + 1) = Int32.toInt (q_9.1 2 2) + 1 := ti_add rfl (by decide) (by omega) (by omega)
    have hTq_10 : TC q_10 := by rw [eq_10]; exact st_2_2 hTq_9 (show (0 : Int) ≤ Int32.toInt (q_9.1 2 2 + 1) by omega) (show Int32.toInt (q_9.1 2 2 + 1) ≤ (6 : Int) by omega)
    have hFq_10 : cFr [3, 4] [(2, 2)] q q_10 := by rw [eq_10]; exact hFq_9.f (by decide)
    exact dOk_some (show (TC q_10) ∧ (cFr [3, 4] [(2, 2)] q q_10) ∧ (((1 : Int) = 0 ∨ (1 : Int) = 1)) from ⟨hTq_10, hFq_10, by omega⟩)
  · exact dOk_some (show (TC q) ∧ (cFr [3, 4] [(2, 2)] q q) ∧ (((0 : Int) = 0 ∨ (0 : Int) = 1)) from ⟨hT, (cFr.rf (q := q)), by omega⟩)

set_option maxHeartbeats 4000000 in
set_option maxRecDepth 100000 in
theorem ok_X8_onHeads_s2 (q : dK) (hT : TC q) : dOk (zX8_onHeads_s2 q) (fun (o : Int32 × dK) => (o.2 = q)) := by
  unfold zX8_onHeads_s2
  unfold zX8_onHeads_s2_4
  refine dFix_ok (fun (a : dK × Int32 × Int32) => (a.1 = q) ∧ (0 ≤ Int32.toInt a.2.2) ∧ (Int32.toInt a.2.2 ≤ 6)) (fun (a : dK × Int32 × Int32) => (6 - Int32.toInt a.2.2).toNat) ?_ _ ?_ _ (dF_gt ?_)
  · intro a ha k_2 hk_1
    obtain ⟨q_3, x1_4, x2_5⟩ := a
    replace ha : (q_3 = q) ∧ (0 ≤ Int32.toInt x2_5) ∧ (Int32.toInt x2_5 ≤ 6) := ha
    obtain ⟨a_6, a_7, a_8⟩ := ha
    show dOk (zX8_onHeads_s2_4b  (fun q x1 x2 => k_2 (q, x1, x2)) q_3 x1_4 x2_5) _
    unfold zX8_onHeads_s2_4b
    subst q_3
    have f_9 : 0 ≤ Int32.toInt (q.1 2 2) ∧ Int32.toInt (q.1 2 2) ≤ 6 := rg_2_2 hT
    refine dOk_le (A := Int32.toInt (q.1 2 2)) (B := Int32.toInt x2_5) rfl rfl (fun c_10 => ?_) (fun c_11 => ?_)
    · exact dOk_some (show (q = q) from rfl)
    · refine dOk_G (dg_ok (show 0 ≤ Int32.toInt x2_5 by omega) (show Int32.toInt x2_5 < ((6 : Nat) : Int) by omega)) ?_
      have n_12 : ((Int32.toNatClampNeg x2_5 : Nat) : Int) = Int32.toInt x2_5 := cl_eq (by omega)
      refine dOk_L (fun v_13 ev_13 => ?_)
      have f_14 : 0 ≤ Int32.toInt v_13 ∧ Int32.toInt v_13 ≤ 1 := by rw [ev_13]; exact rg_4 hT _
      try have t_15 : Int32.toInt (x1_4 + v_13) = Int32.toInt x1_4 + Int32.toInt v_13 := ti_add rfl rfl (by omega) (by omega)
      try have t_16 : Int32.toInt (x2_5 + 1) = Int32.toInt x2_5 + 1 := ti_add rfl (by decide) (by omega) (by omega)
      exact hk_1 (q, (x1_4 + v_13), (x2_5 + 1)) (show (q = q) ∧ (0 ≤ Int32.toInt (x2_5 + 1)) ∧ (Int32.toInt (x2_5 + 1) ≤ 6) from ⟨rfl, by omega, by omega⟩) (show (6 - Int32.toInt (x2_5 + 1)).toNat < (6 - Int32.toInt x2_5).toNat by omega)
  · exact (show (q = q) ∧ (0 ≤ (0 : Int)) ∧ ((0 : Int) ≤ 6) from ⟨rfl, by omega, by omega⟩)
  · show (6 - (0 : Int)).toNat < 1000000000000
    omega

set_option maxHeartbeats 4000000 in
set_option maxRecDepth 100000 in
theorem ok_X9_floor_s0 (q : dK) (p1 : Int32) (p2 : Int32) (hT : TC q) : dOk (zX9_floor_s0 q p1 p2) (fun (o : Int32 × dK) => (TC o.2) ∧ (cFr [3, 4, 48] [(0, 18), (2, 2), (10, 2)] q o.2)) := by
  unfold zX9_floor_s0
  refine dOk_V (ok_X9_isRank p1) (fun r_1 h_2 => ?_)
  replace h_2 : ((Int32.toInt r_1 = 1 ∧ 0 ≤ Int32.toInt p1 ∧ Int32.toInt p1 ≤ 5) ∨ (Int32.toInt r_1 = 0 ∧ (Int32.toInt p1 < 0 ∨ 5 < Int32.toInt p1))) := h_2
  have i_3 := h_2
  refine dOk_eq (A := Int32.toInt r_1) (B := 0) rfl (by decide) (fun c_4z c_4 => ?_) (fun c_5z c_5 => ?_)
  · unfold zX9_floor_s0_14
    refine dOk_B (ok_X9_refuse_s0 q (-1) hT) (fun r_7 q_8 h_9 => ?_)
    replace h_9 : (TC q_8) ∧ (cFr [48] [(0, 18)] q q_8) ∧ (Int32.toInt r_7 = (-1 : Int)) := h_9
    obtain ⟨i_10, i_11, i_12⟩ := h_9
    have hFq_8 : cFr [3, 4, 48] [(0, 18), (2, 2), (10, 2)] q q_8 := (cFr.rf (q := q)).t i_11 (by decide) (by decide)
    exact dOk_some (show (TC q_8) ∧ (cFr [3, 4, 48] [(0, 18), (2, 2), (10, 2)] q q_8) from ⟨i_10, hFq_8⟩)
  · refine dOk_V (ok_X9_isBit p2) (fun r_13 h_14 => ?_)
    replace h_14 : ((Int32.toInt r_13 = 1 ∧ 0 ≤ Int32.toInt p2 ∧ Int32.toInt p2 ≤ 1) ∨ (Int32.toInt r_13 = 0 ∧ (Int32.toInt p2 < 0 ∨ 1 < Int32.toInt p2))) := h_14
    have i_15 := h_14
    refine dOk_eq (A := Int32.toInt r_13) (B := 0) rfl (by decide) (fun c_16z c_16 => ?_) (fun c_17z c_17 => ?_)
    · unfold zX9_floor_s0_14
      refine dOk_B (ok_X9_refuse_s0 q (-1) hT) (fun r_19 q_20 h_21 => ?_)
      replace h_21 : (TC q_20) ∧ (cFr [48] [(0, 18)] q q_20) ∧ (Int32.toInt r_19 = (-1 : Int)) := h_21
      obtain ⟨i_22, i_23, i_24⟩ := h_21
      have hFq_20 : cFr [3, 4, 48] [(0, 18), (2, 2), (10, 2)] q q_20 := (cFr.rf (q := q)).t i_23 (by decide) (by decide)
      exact dOk_some (show (TC q_20) ∧ (cFr [3, 4, 48] [(0, 18), (2, 2), (10, 2)] q q_20) from ⟨i_22, hFq_20⟩)
    · refine dOk_B (ok_X8_has_s2 q p1 hT) (fun r_25 q_26 h_27 => ?_)
      replace h_27 : (q_26 = q) ∧ ((Int32.toInt r_25 = 0 ∨ Int32.toInt r_25 = 1)) := h_27
      obtain ⟨i_28, i_29⟩ := h_27
      subst q_26
      refine dOk_eq (A := Int32.toInt r_25) (B := 0) rfl (by decide) (fun c_30z c_30 => ?_) (fun c_31z c_31 => ?_)
      · refine dOk_B (ok_X8_add_s2 q p1 p2 hT (show 0 ≤ Int32.toInt p1 ∧ Int32.toInt p1 ≤ 7 by omega) (show 0 ≤ Int32.toInt p2 ∧ Int32.toInt p2 ≤ 1 by omega)) (fun r_33 q_34 h_35 => ?_)
        replace h_35 : (TC q_34) ∧ (cFr [3, 4] [(2, 2)] q q_34) ∧ ((Int32.toInt r_33 = 0 ∨ Int32.toInt r_33 = 1)) := h_35
        obtain ⟨i_36, i_37, i_38⟩ := h_35
        have hFq_34 : cFr [3, 4, 48] [(0, 18), (2, 2), (10, 2)] q q_34 := (cFr.rf (q := q)).t i_37 (by decide) (by decide)
        refine dOk_eq (A := Int32.toInt r_33) (B := 0) rfl (by decide) (fun c_39z c_39 => ?_) (fun c_40z c_40 => ?_)
        · refine dOk_B (ok_X9_refuse_s0 q_34 (-5) i_36) (fun r_42 q_43 h_44 => ?_)
          replace h_44 : (TC q_43) ∧ (cFr [48] [(0, 18)] q_34 q_43) ∧ (Int32.toInt r_42 = (-5 : Int)) := h_44
          obtain ⟨i_45, i_46, i_47⟩ := h_44
          have hFq_43 : cFr [3, 4, 48] [(0, 18), (2, 2), (10, 2)] q q_43 := hFq_34.t i_46 (by decide) (by decide)
          exact dOk_some (show (TC q_43) ∧ (cFr [3, 4, 48] [(0, 18), (2, 2), (10, 2)] q q_43) from ⟨i_45, hFq_43⟩)
        · refine dOk_V (ok_X0_clear_s10 q_34 i_36) (fun q_48 h_49 => ?_)
          replace h_49 : (TC q_48) ∧ (cFr [] [(10, 2)] q_34 q_48) := h_49
          obtain ⟨i_50, i_51⟩ := h_49
          have hFq_48 : cFr [3, 4, 48] [(0, 18), (2, 2), (10, 2)] q q_48 := hFq_34.t i_51 (by decide) (by decide)
          have f_52 : 0 ≤ Int32.toInt (q_48.1 2 2) ∧ Int32.toInt (q_48.1 2 2) ≤ 6 := rg_2_2 i_50
          have f_53 : 0 ≤ Int32.toInt (q_34.1 2 2) ∧ Int32.toInt (q_34.1 2 2) ≤ 6 := rg_2_2 i_36
          have w_54 : Int32.toInt (q_48.1 2 2) = Int32.toInt (q_34.1 2 2) := by rw [i_51.1 2 2 (by decide) (by decide)]
          try have t_55 : Int32.toInt (q_48.1 2 2 - 1) = Int32.toInt (q_48.1 2 2) - 1 := ti_sub rfl (by decide) (by omega) (by omega)
          refine dOk_B (ok_X9_accept_s0 q_48 (q_48.1 2 2 - 1) i_50) (fun r_56 q_57 h_58 => ?_)
          replace h_58 : (TC q_57) ∧ (cFr [] [(0, 18)] q_48 q_57) ∧ (Int32.toInt r_56 = Int32.toInt (q_48.1 2 2 - 1)) := h_58
          obtain ⟨i_59, i_60, i_61⟩ := h_58
          have hFq_57 : cFr [3, 4, 48] [(0, 18), (2, 2), (10, 2)] q q_57 := hFq_48.t i_60 (by decide) (by decide)
          exact dOk_some (show (TC q_57) ∧ (cFr [3, 4, 48] [(0, 18), (2, 2), (10, 2)] q q_57) from ⟨i_59, hFq_57⟩)
      · refine dOk_B (ok_X9_refuse_s0 q (-3) hT) (fun r_62 q_63 h_64 => ?_)
        replace h_64 : (TC q_63) ∧ (cFr [48] [(0, 18)] q q_63) ∧ (Int32.toInt r_62 = (-3 : Int)) := h_64
        obtain ⟨i_65, i_66, i_67⟩ := h_64
        have hFq_63 : cFr [3, 4, 48] [(0, 18), (2, 2), (10, 2)] q q_63 := (cFr.rf (q := q)).t i_66 (by decide) (by decide)
        exact dOk_some (show (TC q_63) ∧ (cFr [3, 4, 48] [(0, 18), (2, 2), (10, 2)] q q_63) from ⟨i_65, hFq_63⟩)

set_option maxHeartbeats 4000000 in
set_option maxRecDepth 100000 in
theorem ok_X6_isLaw_s1 (q : dK) (p1 : Int32) (hT : TC q) : dOk (zX6_isLaw_s1 q p1) (fun (o : Int32 × dK) => (o.2 = q) ∧ ((Int32.toInt o.1 = 1 ∧ 0 ≤ Int32.toInt p1 ∧ Int32.toInt p1 < Int32.toInt (q.1 1 8)) ∨ (Int32.toInt o.1 = 0))) := by
  unfold zX6_isLaw_s1
  refine dOk_lt (A := Int32.toInt p1) (B := 0) rfl (by decide) (fun c_1 => ?_) (fun c_2 => ?_)
  · unfold zX6_isLaw_s1_16
    unfold zX6_isLaw_s1_17
    refine dOk_G (dbl_ok (show (0 : Int) = 0 ∨ (0 : Int) = 1 by omega)) ?_
    have f_3 : 0 ≤ Int32.toInt (q.1 1 8) ∧ Int32.toInt (q.1 1 8) ≤ 6 := rg_1_8 hT
    exact dOk_some (show (q = q) ∧ (((0 : Int) = 1 ∧ 0 ≤ Int32.toInt p1 ∧ Int32.toInt p1 < Int32.toInt (q.1 1 8)) ∨ ((0 : Int) = 0)) from ⟨rfl, by omega⟩)
  · have f_4 : 0 ≤ Int32.toInt (q.1 1 8) ∧ Int32.toInt (q.1 1 8) ≤ 6 := rg_1_8 hT
    refine dOk_le (A := Int32.toInt (q.1 1 8)) (B := Int32.toInt p1) rfl rfl (fun c_5 => ?_) (fun c_6 => ?_)
    · unfold zX6_isLaw_s1_16
      unfold zX6_isLaw_s1_17
      refine dOk_G (dbl_ok (show (0 : Int) = 0 ∨ (0 : Int) = 1 by omega)) ?_
      exact dOk_some (show (q = q) ∧ (((0 : Int) = 1 ∧ 0 ≤ Int32.toInt p1 ∧ Int32.toInt p1 < Int32.toInt (q.1 1 8)) ∨ ((0 : Int) = 0)) from ⟨rfl, by omega⟩)
    · unfold zX6_isLaw_s1_17
      refine dOk_G (dbl_ok (show (1 : Int) = 0 ∨ (1 : Int) = 1 by omega)) ?_
      exact dOk_some (show (q = q) ∧ (((1 : Int) = 1 ∧ 0 ≤ Int32.toInt p1 ∧ Int32.toInt p1 < Int32.toInt (q.1 1 8)) ∨ ((1 : Int) = 0)) from ⟨rfl, by omega⟩)

set_option maxHeartbeats 4000000 in
set_option maxRecDepth 100000 in
theorem ok_X6_lawAt_s1 (q : dK) (p1 : Int32) (hT : TC q) : dOk (zX6_lawAt_s1 q p1) (fun (o : Int32 × dK) => (o.2 = q) ∧ (0 ≤ Int32.toInt o.1) ∧ (Int32.toInt o.1 ≤ (q.2.2.length : Int))) := by
  unfold zX6_lawAt_s1
  refine dOk_B (ok_X6_isLaw_s1 q p1 hT) (fun r_1 q_2 h_3 => ?_)
  replace h_3 : (q_2 = q) ∧ ((Int32.toInt r_1 = 1 ∧ 0 ≤ Int32.toInt p1 ∧ Int32.toInt p1 < Int32.toInt (q.1 1 8)) ∨ (Int32.toInt r_1 = 0)) := h_3
  obtain ⟨i_4, i_5⟩ := h_3
  subst q_2
  have f_6 : 0 ≤ Int32.toInt (q.1 1 8) ∧ Int32.toInt (q.1 1 8) ≤ 6 := rg_1_8 hT
  refine dOk_eq (A := Int32.toInt r_1) (B := 0) rfl (by decide) (fun c_7z c_7 => ?_) (fun c_8z c_8 => ?_)
  · unfold zX6_lawAt_s1_18
    exact dOk_some (show (q = q) ∧ (0 ≤ (0 : Int)) ∧ ((0 : Int) ≤ (q.2.2.length : Int)) from ⟨rfl, by omega, by omega⟩)
  · refine dOk_G (dg_ok (show 0 ≤ Int32.toInt p1 by omega) (show Int32.toInt p1 < ((6 : Nat) : Int) by omega)) ?_
    have n_10 : ((Int32.toNatClampNeg p1 : Nat) : Int) = Int32.toInt p1 := cl_eq (by omega)
    refine dOk_L (fun v_11 ev_11 => ?_)
    have f_12 : 0 ≤ Int32.toInt v_11 ∧ Int32.toInt v_11 ≤ 2147483647 := by rw [ev_11]; exact rg_7 hT _
    have f_13 : Int32.toInt v_11 ≤ (q.2.2.length : Int) := by rw [ev_11]; exact (hT.2.1.2 _).1
    exact dOk_some (show (q = q) ∧ (0 ≤ Int32.toInt v_11) ∧ (Int32.toInt v_11 ≤ (q.2.2.length : Int)) from ⟨rfl, by omega, by omega⟩)

set_option maxHeartbeats 4000000 in
set_option maxRecDepth 100000 in
theorem ok_X1_seat_s20_n (q : dK) (p2 : Int32) (hT : TC q) : dOk (zX1_seat_s20_n q p2) (fun (o : dK) => (TC o) ∧ (cFr [21] [(20, 2)] q o)) := by
  unfold zX1_seat_s20_n
  refine dOk_L (fun q_1 eq_1 => ?_)
  have hTq_1 : TC q_1 := by rw [eq_1]; exact tc_law hT (by omega) (show 0 ≤ (0 : Int) by omega) (show (0 : Int) ≤ (q.2.2.length : Int) by omega)
  have hFq_1 : cFr [21] [(20, 2)] q q_1 := by rw [eq_1]; exact (cFr.rf (q := q)).f (by decide)
  refine dOk_L (fun q_2 eq_2 => ?_)
  have hTq_2 : TC q_2 := by rw [eq_2]; exact sa_21 hTq_1
  have hFq_2 : cFr [21] [(20, 2)] q q_2 := by rw [eq_2]; exact hFq_1.i (by decide)
  exact dOk_some (show (TC q_2) ∧ (cFr [21] [(20, 2)] q q_2) from ⟨hTq_2, hFq_2⟩)

set_option maxHeartbeats 4000000 in
set_option maxRecDepth 100000 in
theorem ok_X1_seat_s20_l (q : dK) (p1 : Int32) (p2 : Int32) (hT : TC q) (hp0 : ¬ Int32.toInt p1 = 0) (hp1 : 0 ≤ Int32.toInt p1) (hp2 : Int32.toInt p1 ≤ (q.2.2.length : Int)) : dOk (zX1_seat_s20_l q p1 p2) (fun (o : dK) => (TC o) ∧ (cFr [21] [(20, 2)] q o)) := by
  unfold zX1_seat_s20_l
  have g_1 : dlg q p1 = true := tc_dlg hT (show ¬ Int32.toInt p1 = 0 by omega) (show 0 ≤ Int32.toInt p1 by omega) (show Int32.toInt p1 ≤ (q.2.2.length : Int) by omega)
  refine dOk_G g_1 ?_
  refine dOk_L (fun q_2 eq_2 => ?_)
  have hTq_2 : TC q_2 := by rw [eq_2]; exact tc_law hT (by omega) (show 0 ≤ Int32.toInt p1 by omega) (show Int32.toInt p1 ≤ (q.2.2.length : Int) by omega)
  have hFq_2 : cFr [21] [(20, 2)] q q_2 := by rw [eq_2]; exact (cFr.rf (q := q)).f (by decide)
  refine dOk_L (fun q_3 eq_3 => ?_)
  have hTq_3 : TC q_3 := by rw [eq_3]; exact sa_21 hTq_2
  have hFq_3 : cFr [21] [(20, 2)] q q_3 := by rw [eq_3]; exact hFq_2.i (by decide)
  exact dOk_some (show (TC q_3) ∧ (cFr [21] [(20, 2)] q q_3) from ⟨hTq_3, hFq_3⟩)

set_option maxHeartbeats 4000000 in
set_option maxRecDepth 100000 in
theorem ok_X9_seated_s0 (q : dK) (hT : TC q) : dOk (zX9_seated_s0 q) (fun (o : dK) => (TC o) ∧ (cFr [21] [(20, 2)] q o)) := by
  unfold zX9_seated_s0
  refine dOk_B (ok_X6_lawAt_s1 q (q.1 1 9) hT) (fun r_1 q_2 h_3 => ?_)
  replace h_3 : (q_2 = q) ∧ (0 ≤ Int32.toInt r_1) ∧ (Int32.toInt r_1 ≤ (q.2.2.length : Int)) := h_3
  obtain ⟨i_4, i_5, i_6⟩ := h_3
  subst q_2
  refine dOk_eq (A := Int32.toInt r_1) (B := 0) rfl (by decide) (fun c_7z c_7 => ?_) (fun c_8z c_8 => ?_)
  · refine dOk_V (ok_X1_seat_s20_n q (q.1 1 2) hT) (fun q_10 h_11 => ?_)
    replace h_11 : (TC q_10) ∧ (cFr [21] [(20, 2)] q q_10) := h_11
    obtain ⟨i_12, i_13⟩ := h_11
    have hFq_10 : cFr [21] [(20, 2)] q q_10 := (cFr.rf (q := q)).t i_13 (by decide) (by decide)
    exact dOk_some (show (TC q_10) ∧ (cFr [21] [(20, 2)] q q_10) from ⟨i_12, hFq_10⟩)
  · refine dOk_V (ok_X1_seat_s20_l q r_1 (q.1 1 2) hT (show ¬ Int32.toInt r_1 = 0 by omega) (show 0 ≤ Int32.toInt r_1 by omega) (show Int32.toInt r_1 ≤ (q.2.2.length : Int) by omega)) (fun q_14 h_15 => ?_)
    replace h_15 : (TC q_14) ∧ (cFr [21] [(20, 2)] q q_14) := h_15
    obtain ⟨i_16, i_17⟩ := h_15
    have hFq_14 : cFr [21] [(20, 2)] q q_14 := (cFr.rf (q := q)).t i_17 (by decide) (by decide)
    exact dOk_some (show (TC q_14) ∧ (cFr [21] [(20, 2)] q q_14) from ⟨i_16, hFq_14⟩)

set_option maxHeartbeats 4000000 in
set_option maxRecDepth 100000 in
theorem ok_X1_setCommon_s20 (q : dK) (p1 : Int32) (p2 : Int32) (hT : TC q) : dOk (zX1_setCommon_s20 q p1 p2) (fun (o : dK) => (TC o) ∧ (cFr [21] [] q o)) := by
  unfold zX1_setCommon_s20
  refine dOk_L (fun q_1 eq_1 => ?_)
  have hTq_1 : TC q_1 := by rw [eq_1]; exact sa_21 hT
  have hFq_1 : cFr [21] [] q q_1 := by rw [eq_1]; exact (cFr.rf (q := q)).i (by decide)
  refine dOk_L (fun q_2 eq_2 => ?_)
  have hTq_2 : TC q_2 := by rw [eq_2]; exact sa_21 hTq_1
  have hFq_2 : cFr [21] [] q q_2 := by rw [eq_2]; exact hFq_1.i (by decide)
  exact dOk_some (show (TC q_2) ∧ (cFr [21] [] q q_2) from ⟨hTq_2, hFq_2⟩)

set_option maxHeartbeats 4000000 in
set_option maxRecDepth 100000 in
theorem ok_X1_setGrip_s20 (q : dK) (p1 : Int32) (p2 : Int32) (p3 : Int32) (p4 : Int32) (hT : TC q) : dOk (zX1_setGrip_s20 q p1 p2 p3 p4) (fun (o : dK) => (TC o) ∧ (cFr [21] [] q o) ∧ (Int32.toInt (o.1 21 0) = Int32.toInt p1)) := by
  unfold zX1_setGrip_s20
  refine dOk_L (fun q_1 eq_1 => ?_)
  have hTq_1 : TC q_1 := by rw [eq_1]; exact sa_21 hT
  have hFq_1 : cFr [21] [] q q_1 := by rw [eq_1]; exact (cFr.rf (q := q)).i (by decide)
  refine dOk_L (fun q_2 eq_2 => ?_)
  have hTq_2 : TC q_2 := by rw [eq_2]; exact sa_21 hTq_1
  have hFq_2 : cFr [21] [] q q_2 := by rw [eq_2]; exact hFq_1.i (by decide)
  refine dOk_L (fun q_3 eq_3 => ?_)
  have hTq_3 : TC q_3 := by rw [eq_3]; exact sa_21 hTq_2
  have hFq_3 : cFr [21] [] q q_3 := by rw [eq_3]; exact hFq_2.i (by decide)
  refine dOk_L (fun q_4 eq_4 => ?_)
  have hTq_4 : TC q_4 := by rw [eq_4]; exact sa_21 hTq_3
  have hFq_4 : cFr [21] [] q q_4 := by rw [eq_4]; exact hFq_3.i (by decide)
  refine dOk_L (fun q_5 eq_5 => ?_)
  have hTq_5 : TC q_5 := by rw [eq_5]; exact sa_21 hTq_4
  have hFq_5 : cFr [21] [] q q_5 := by rw [eq_5]; exact hFq_4.i (by decide)
  refine dOk_L (fun q_6 eq_6 => ?_)
  have hTq_6 : TC q_6 := by rw [eq_6]; exact sa_21 hTq_5
  have hFq_6 : cFr [21] [] q q_6 := by rw [eq_6]; exact hFq_5.i (by decide)
  have w_7 : Int32.toInt (q_1.1 21 0) = Int32.toInt p1 := by rw [eq_1, cui_e]
  have w_8 : Int32.toInt (q_2.1 21 0) = Int32.toInt (q_1.1 21 0) := by rw [eq_2, cui_n (by decide)]
  have w_9 : Int32.toInt (q_3.1 21 0) = Int32.toInt (q_2.1 21 0) := by rw [eq_3, cui_n (by decide)]
  have w_10 : Int32.toInt (q_4.1 21 0) = Int32.toInt (q_3.1 21 0) := by rw [eq_4, cui_n (by decide)]
  have w_11 : Int32.toInt (q_5.1 21 0) = Int32.toInt (q_4.1 21 0) := by rw [eq_5, cui_n (by decide)]
  have w_12 : Int32.toInt (q_6.1 21 0) = Int32.toInt (q_5.1 21 0) := by rw [eq_6, cui_n (by decide)]
  exact dOk_some (show (TC q_6) ∧ (cFr [21] [] q q_6) ∧ (Int32.toInt (q_6.1 21 0) = Int32.toInt p1) from ⟨hTq_6, hFq_6, by omega⟩)

set_option maxHeartbeats 4000000 in
set_option maxRecDepth 100000 in
theorem ok_X1_setTurn_s20_s2 (q : dK) (p2 : Int32) (hT : TC q) : dOk (zX1_setTurn_s20_s2 q p2) (fun (o : dK) => (TC o) ∧ (cFr [21] [] q o) ∧ (Int32.toInt (o.1 21 0) = Int32.toInt p2)) := by
  unfold zX1_setTurn_s20_s2
  have f_1 : 0 ≤ Int32.toInt (q.1 2 2) ∧ Int32.toInt (q.1 2 2) ≤ 6 := rg_2_2 hT
  have f_2 : 0 ≤ Int32.toInt (q.1 2 4) ∧ Int32.toInt (q.1 2 4) ≤ 1023 := rg_2_4 hT
  refine dOk_V (ok_X1_setCommon_s20 q (q.1 2 2) (q.1 2 4) hT) (fun q_3 h_4 => ?_)
  replace h_4 : (TC q_3) ∧ (cFr [21] [] q q_3) := h_4
  obtain ⟨i_5, i_6⟩ := h_4
  have hFq_3 : cFr [21] [] q q_3 := (cFr.rf (q := q)).t i_6 (by decide) (by decide)
  refine dOk_B (ok_X8_tell_s2 q_3 0 0 i_5) (fun r_7 q_8 h_9 => ?_)
  replace h_9 : (q_8 = q_3) ∧ (-1 ≤ Int32.toInt r_7 ∧ Int32.toInt r_7 ≤ 7) := h_9
  obtain ⟨i_10, i_11⟩ := h_9
  subst q_8
  refine dOk_B (ok_X8_tell_s2 q_3 p2 0 i_5) (fun r_12 q_13 h_14 => ?_)
  replace h_14 : (q_13 = q_3) ∧ (-1 ≤ Int32.toInt r_12 ∧ Int32.toInt r_12 ≤ 7) := h_14
  obtain ⟨i_15, i_16⟩ := h_14
  subst q_13
  refine dOk_B (ok_X8_tell_s2 q_3 0 1 i_5) (fun r_17 q_18 h_19 => ?_)
  replace h_19 : (q_18 = q_3) ∧ (-1 ≤ Int32.toInt r_17 ∧ Int32.toInt r_17 ≤ 7) := h_19
  obtain ⟨i_20, i_21⟩ := h_19
  subst q_18
  refine dOk_V (ok_X1_setGrip_s20 q_3 p2 r_7 r_12 r_17 i_5) (fun q_22 h_23 => ?_)
  replace h_23 : (TC q_22) ∧ (cFr [21] [] q_3 q_22) ∧ (Int32.toInt (q_22.1 21 0) = Int32.toInt p2) := h_23
  obtain ⟨i_24, i_25, i_26⟩ := h_23
  have hFq_22 : cFr [21] [] q q_22 := hFq_3.t i_25 (by decide) (by decide)
  exact dOk_some (show (TC q_22) ∧ (cFr [21] [] q q_22) ∧ (Int32.toInt (q_22.1 21 0) = Int32.toInt p2) from ⟨i_24, hFq_22, by omega⟩)

set_option maxHeartbeats 4000000 in
set_option maxRecDepth 100000 in
theorem ok_X1_setTurn_s20_s15 (q : dK) (p2 : Int32) (hT : TC q) : dOk (zX1_setTurn_s20_s15 q p2) (fun (o : dK) => (TC o) ∧ (cFr [21] [] q o) ∧ (Int32.toInt (o.1 21 0) = Int32.toInt p2)) := by
  unfold zX1_setTurn_s20_s15
  have f_1 : 0 ≤ Int32.toInt (q.1 15 2) ∧ Int32.toInt (q.1 15 2) ≤ 6 := rg_15_2 hT
  have f_2 : 0 ≤ Int32.toInt (q.1 15 4) ∧ Int32.toInt (q.1 15 4) ≤ 1023 := rg_15_4 hT
  refine dOk_V (ok_X1_setCommon_s20 q (q.1 15 2) (q.1 15 4) hT) (fun q_3 h_4 => ?_)
  replace h_4 : (TC q_3) ∧ (cFr [21] [] q q_3) := h_4
  obtain ⟨i_5, i_6⟩ := h_4
  have hFq_3 : cFr [21] [] q q_3 := (cFr.rf (q := q)).t i_6 (by decide) (by decide)
  refine dOk_B (ok_X8_tell_s15 q_3 0 0 i_5) (fun r_7 q_8 h_9 => ?_)
  replace h_9 : (q_8 = q_3) ∧ (-1 ≤ Int32.toInt r_7 ∧ Int32.toInt r_7 ≤ 7) := h_9
  obtain ⟨i_10, i_11⟩ := h_9
  subst q_8
  refine dOk_B (ok_X8_tell_s15 q_3 p2 0 i_5) (fun r_12 q_13 h_14 => ?_)
  replace h_14 : (q_13 = q_3) ∧ (-1 ≤ Int32.toInt r_12 ∧ Int32.toInt r_12 ≤ 7) := h_14
  obtain ⟨i_15, i_16⟩ := h_14
  subst q_13
  refine dOk_B (ok_X8_tell_s15 q_3 0 1 i_5) (fun r_17 q_18 h_19 => ?_)
  replace h_19 : (q_18 = q_3) ∧ (-1 ≤ Int32.toInt r_17 ∧ Int32.toInt r_17 ≤ 7) := h_19
  obtain ⟨i_20, i_21⟩ := h_19
  subst q_18
  refine dOk_V (ok_X1_setGrip_s20 q_3 p2 r_7 r_12 r_17 i_5) (fun q_22 h_23 => ?_)
  replace h_23 : (TC q_22) ∧ (cFr [21] [] q_3 q_22) ∧ (Int32.toInt (q_22.1 21 0) = Int32.toInt p2) := h_23
  obtain ⟨i_24, i_25, i_26⟩ := h_23
  have hFq_22 : cFr [21] [] q q_22 := hFq_3.t i_25 (by decide) (by decide)
  exact dOk_some (show (TC q_22) ∧ (cFr [21] [] q q_22) ∧ (Int32.toInt (q_22.1 21 0) = Int32.toInt p2) from ⟨i_24, hFq_22, by omega⟩)
end
section
set_option maxHeartbeats 4000000 in
set_option maxRecDepth 100000 in
theorem ok_X6_term_s1 (q : dK) (p1 : Int32) (hT : TC q) : dOk (zX6_term_s1 q p1) (fun (o : Int32 × dK) => (o.2 = q)) := by
  unfold zX6_term_s1
  refine dOk_eq (A := Int32.toInt p1) (B := 0) rfl (by decide) (fun c_1z c_1 => ?_) (fun c_2z c_2 => ?_)
  · have f_4 : 0 ≤ Int32.toInt (q.1 2 4) ∧ Int32.toInt (q.1 2 4) ≤ 1023 := rg_2_4 hT
    exact dOk_some (show (q = q) from rfl)
  · refine dOk_eq (A := Int32.toInt p1) (B := 1) rfl (by decide) (fun c_5z c_5 => ?_) (fun c_6z c_6 => ?_)
    · have f_8 : 0 ≤ Int32.toInt (q.1 1 1) ∧ Int32.toInt (q.1 1 1) ≤ 10 := rg_1_1 hT
      exact dOk_some (show (q = q) from rfl)
    · refine dOk_eq (A := Int32.toInt p1) (B := 2) rfl (by decide) (fun c_9z c_9 => ?_) (fun c_10z c_10 => ?_)
      · exact dOk_some (show (q = q) from rfl)
      · refine dOk_eq (A := Int32.toInt p1) (B := 3) rfl (by decide) (fun c_12z c_12 => ?_) (fun c_13z c_13 => ?_)
        · exact dOk_some (show (q = q) from rfl)
        · exact dOk_some (show (q = q) from rfl)

set_option maxHeartbeats 4000000 in
set_option maxRecDepth 100000 in
theorem ok_X9_force_s0 (q : dK) (p1 : Int32) (hT : TC q) : dOk (zX9_force_s0 q p1) (fun (o : Int32 × dK) => (TC o.2) ∧ (cFr [48] [(0, 18), (1, 9)] q o.2)) := by
  unfold zX9_force_s0
  refine dOk_eq (A := Int32.toInt p1) (B := (-1)) rfl (by decide) (fun c_1z c_1 => ?_) (fun c_2z c_2 => ?_)
  · unfold zX9_force_s0_23
    refine dOk_L (fun q_4 eq_4 => ?_)
    have hTq_4 : TC q_4 := by rw [eq_4]; exact sa_1_9 hT
    have hFq_4 : cFr [48] [(0, 18), (1, 9)] q q_4 := by rw [eq_4]; exact (cFr.rf (q := q)).f (by decide)
    refine dOk_B (ok_X9_accept_s0 q_4 (q.1 1 9) hTq_4) (fun r_5 q_6 h_7 => ?_)
    replace h_7 : (TC q_6) ∧ (cFr [] [(0, 18)] q_4 q_6) ∧ (Int32.toInt r_5 = Int32.toInt (q.1 1 9)) := h_7
    obtain ⟨i_8, i_9, i_10⟩ := h_7
    have hFq_6 : cFr [48] [(0, 18), (1, 9)] q q_6 := hFq_4.t i_9 (by decide) (by decide)
    exact dOk_some (show (TC q_6) ∧ (cFr [48] [(0, 18), (1, 9)] q q_6) from ⟨i_8, hFq_6⟩)
  · refine dOk_B (ok_X6_isLaw_s1 q p1 hT) (fun r_11 q_12 h_13 => ?_)
    replace h_13 : (q_12 = q) ∧ ((Int32.toInt r_11 = 1 ∧ 0 ≤ Int32.toInt p1 ∧ Int32.toInt p1 < Int32.toInt (q.1 1 8)) ∨ (Int32.toInt r_11 = 0)) := h_13
    obtain ⟨i_14, i_15⟩ := h_13
    subst q_12
    have f_16 : 0 ≤ Int32.toInt (q.1 1 8) ∧ Int32.toInt (q.1 1 8) ≤ 6 := rg_1_8 hT
    refine dOk_eq (A := Int32.toInt r_11) (B := 0) rfl (by decide) (fun c_17z c_17 => ?_) (fun c_18z c_18 => ?_)
    · refine dOk_B (ok_X9_refuse_s0 q (-2) hT) (fun r_20 q_21 h_22 => ?_)
      replace h_22 : (TC q_21) ∧ (cFr [48] [(0, 18)] q q_21) ∧ (Int32.toInt r_20 = (-2 : Int)) := h_22
      obtain ⟨i_23, i_24, i_25⟩ := h_22
      have hFq_21 : cFr [48] [(0, 18), (1, 9)] q q_21 := (cFr.rf (q := q)).t i_24 (by decide) (by decide)
      exact dOk_some (show (TC q_21) ∧ (cFr [48] [(0, 18), (1, 9)] q q_21) from ⟨i_23, hFq_21⟩)
    · unfold zX9_force_s0_23
      refine dOk_L (fun q_26 eq_26 => ?_)
      have hTq_26 : TC q_26 := by rw [eq_26]; exact sa_1_9 hT
      have hFq_26 : cFr [48] [(0, 18), (1, 9)] q q_26 := by rw [eq_26]; exact (cFr.rf (q := q)).f (by decide)
      refine dOk_B (ok_X9_accept_s0 q_26 (q.1 1 9) hTq_26) (fun r_27 q_28 h_29 => ?_)
      replace h_29 : (TC q_28) ∧ (cFr [] [(0, 18)] q_26 q_28) ∧ (Int32.toInt r_27 = Int32.toInt (q.1 1 9)) := h_29
      obtain ⟨i_30, i_31, i_32⟩ := h_29
      have hFq_28 : cFr [48] [(0, 18), (1, 9)] q q_28 := hFq_26.t i_31 (by decide) (by decide)
      exact dOk_some (show (TC q_28) ∧ (cFr [48] [(0, 18), (1, 9)] q q_28) from ⟨i_30, hFq_28⟩)

set_option maxHeartbeats 4000000 in
set_option maxRecDepth 100000 in
theorem ok_X9_forget_s0 (q : dK) (hT : TC q) : dOk (zX9_forget_s0 q) (fun (o : Int32 × dK) => (TC o.2) ∧ (cFr [] [(1, 6)] q o.2) ∧ (Int32.toInt o.1 = Int32.toInt (q.1 1 6)) ∧ (Int32.toInt (o.2.1 1 6) = 0)) := by
  unfold zX9_forget_s0
  refine dOk_L (fun q_1 eq_1 => ?_)
  have hTq_1 : TC q_1 := by rw [eq_1]; exact st_1_6 hT (show (0 : Int) ≤ (0 : Int) by omega) (show (0 : Int) ≤ (6 : Int) by omega)
  have hFq_1 : cFr [] [(1, 6)] q q_1 := by rw [eq_1]; exact (cFr.rf (q := q)).f (by decide)
  have f_2 : 0 ≤ Int32.toInt (q.1 1 6) ∧ Int32.toInt (q.1 1 6) ≤ 6 := rg_1_6 hT
  have f_3 : 0 ≤ Int32.toInt (q_1.1 1 6) ∧ Int32.toInt (q_1.1 1 6) ≤ 6 := rg_1_6 hTq_1
  have w_4 : Int32.toInt (q_1.1 1 6) = (0 : Int) := by rw [eq_1, cui_e]; decide
  exact dOk_some (show (TC q_1) ∧ (cFr [] [(1, 6)] q q_1) ∧ (Int32.toInt (q.1 1 6) = Int32.toInt (q.1 1 6)) ∧ (Int32.toInt (q_1.1 1 6) = 0) from ⟨hTq_1, hFq_1, by omega, by omega⟩)

set_option maxHeartbeats 4000000 in
set_option maxRecDepth 100000 in
theorem ok_X6_setTerm_s1 (q : dK) (p1 : Int32) (p2 : Int32) (hT : TC q) (hp0 : 0 ≤ Int32.toInt p2) (hp1 : (Int32.toInt p1 = 0 ∧ Int32.toInt p2 ≤ 999) ∨ (Int32.toInt p1 = 1 ∧ Int32.toInt p2 ≤ 10) ∨ (¬ Int32.toInt p1 = 0 ∧ ¬ Int32.toInt p1 = 1)) : dOk (zX6_setTerm_s1 q p1 p2) (fun (o : dK) => (TC o) ∧ (cFr [] [(1, 1), (1, 2), (1, 3), (2, 4)] q o) ∧ ((Int32.toInt p1 = 1 ∧ Int32.toInt (o.1 1 1) = Int32.toInt p2) ∨ (¬ Int32.toInt p1 = 1 ∧ Int32.toInt (o.1 1 1) = Int32.toInt (q.1 1 1)))) := by
  unfold zX6_setTerm_s1
  refine dOk_eq (A := Int32.toInt p1) (B := 0) rfl (by decide) (fun c_1z c_1 => ?_) (fun c_2z c_2 => ?_)
  · refine dOk_L (fun q_4 eq_4 => ?_)
    have hTq_4 : TC q_4 := by rw [eq_4]; exact st_2_4 hT (show (0 : Int) ≤ Int32.toInt p2 by omega) (show Int32.toInt p2 ≤ (1023 : Int) by omega)
    have hFq_4 : cFr [] [(1, 1), (1, 2), (1, 3), (2, 4)] q q_4 := by rw [eq_4]; exact (cFr.rf (q := q)).f (by decide)
    unfold zX6_setTerm_s1_67
    have f_5 : 0 ≤ Int32.toInt (q_4.1 1 1) ∧ Int32.toInt (q_4.1 1 1) ≤ 10 := rg_1_1 hTq_4
    have f_6 : 0 ≤ Int32.toInt (q.1 1 1) ∧ Int32.toInt (q.1 1 1) ≤ 10 := rg_1_1 hT
    have w_7 : Int32.toInt (q_4.1 1 1) = Int32.toInt (q.1 1 1) := by rw [eq_4, cui_o (by decide)]
    exact dOk_some (show (TC q_4) ∧ (cFr [] [(1, 1), (1, 2), (1, 3), (2, 4)] q q_4) ∧ ((Int32.toInt p1 = 1 ∧ Int32.toInt (q_4.1 1 1) = Int32.toInt p2) ∨ (¬ Int32.toInt p1 = 1 ∧ Int32.toInt (q_4.1 1 1) = Int32.toInt (q.1 1 1))) from ⟨hTq_4, hFq_4, by omega⟩)
  · refine dOk_eq (A := Int32.toInt p1) (B := 1) rfl (by decide) (fun c_8z c_8 => ?_) (fun c_9z c_9 => ?_)
    · refine dOk_L (fun q_11 eq_11 => ?_)
      have hTq_11 : TC q_11 := by rw [eq_11]; exact st_1_1 hT (show (0 : Int) ≤ Int32.toInt p2 by omega) (show Int32.toInt p2 ≤ (10 : Int) by omega)
      have hFq_11 : cFr [] [(1, 1), (1, 2), (1, 3), (2, 4)] q q_11 := by rw [eq_11]; exact (cFr.rf (q := q)).f (by decide)
      unfold zX6_setTerm_s1_67
      have f_12 : 0 ≤ Int32.toInt (q_11.1 1 1) ∧ Int32.toInt (q_11.1 1 1) ≤ 10 := rg_1_1 hTq_11
      have w_13 : Int32.toInt (q_11.1 1 1) = Int32.toInt p2 := by rw [eq_11, cui_e]
      have f_14 : 0 ≤ Int32.toInt (q.1 1 1) ∧ Int32.toInt (q.1 1 1) ≤ 10 := rg_1_1 hT
      exact dOk_some (show (TC q_11) ∧ (cFr [] [(1, 1), (1, 2), (1, 3), (2, 4)] q q_11) ∧ ((Int32.toInt p1 = 1 ∧ Int32.toInt (q_11.1 1 1) = Int32.toInt p2) ∨ (¬ Int32.toInt p1 = 1 ∧ Int32.toInt (q_11.1 1 1) = Int32.toInt (q.1 1 1))) from ⟨hTq_11, hFq_11, by omega⟩)
    · refine dOk_eq (A := Int32.toInt p1) (B := 2) rfl (by decide) (fun c_15z c_15 => ?_) (fun c_16z c_16 => ?_)
      · refine dOk_L (fun q_18 eq_18 => ?_)
        have hTq_18 : TC q_18 := by rw [eq_18]; exact sa_1_2 hT
        have hFq_18 : cFr [] [(1, 1), (1, 2), (1, 3), (2, 4)] q q_18 := by rw [eq_18]; exact (cFr.rf (q := q)).f (by decide)
        unfold zX6_setTerm_s1_67
        have f_19 : 0 ≤ Int32.toInt (q_18.1 1 1) ∧ Int32.toInt (q_18.1 1 1) ≤ 10 := rg_1_1 hTq_18
        have f_20 : 0 ≤ Int32.toInt (q.1 1 1) ∧ Int32.toInt (q.1 1 1) ≤ 10 := rg_1_1 hT
        have w_21 : Int32.toInt (q_18.1 1 1) = Int32.toInt (q.1 1 1) := by rw [eq_18, cui_n (by decide)]
        exact dOk_some (show (TC q_18) ∧ (cFr [] [(1, 1), (1, 2), (1, 3), (2, 4)] q q_18) ∧ ((Int32.toInt p1 = 1 ∧ Int32.toInt (q_18.1 1 1) = Int32.toInt p2) ∨ (¬ Int32.toInt p1 = 1 ∧ Int32.toInt (q_18.1 1 1) = Int32.toInt (q.1 1 1))) from ⟨hTq_18, hFq_18, by omega⟩)
      · refine dOk_eq (A := Int32.toInt p1) (B := 3) rfl (by decide) (fun c_22z c_22 => ?_) (fun c_23z c_23 => ?_)
        · refine dOk_L (fun q_25 eq_25 => ?_)
          have hTq_25 : TC q_25 := by rw [eq_25]; exact sa_1_3 hT
          have hFq_25 : cFr [] [(1, 1), (1, 2), (1, 3), (2, 4)] q q_25 := by rw [eq_25]; exact (cFr.rf (q := q)).f (by decide)
          unfold zX6_setTerm_s1_67
          have f_26 : 0 ≤ Int32.toInt (q_25.1 1 1) ∧ Int32.toInt (q_25.1 1 1) ≤ 10 := rg_1_1 hTq_25
          have f_27 : 0 ≤ Int32.toInt (q.1 1 1) ∧ Int32.toInt (q.1 1 1) ≤ 10 := rg_1_1 hT
          have w_28 : Int32.toInt (q_25.1 1 1) = Int32.toInt (q.1 1 1) := by rw [eq_25, cui_n (by decide)]
          exact dOk_some (show (TC q_25) ∧ (cFr [] [(1, 1), (1, 2), (1, 3), (2, 4)] q q_25) ∧ ((Int32.toInt p1 = 1 ∧ Int32.toInt (q_25.1 1 1) = Int32.toInt p2) ∨ (¬ Int32.toInt p1 = 1 ∧ Int32.toInt (q_25.1 1 1) = Int32.toInt (q.1 1 1))) from ⟨hTq_25, hFq_25, by omega⟩)
        · unfold zX6_setTerm_s1_67
          have f_29 : 0 ≤ Int32.toInt (q.1 1 1) ∧ Int32.toInt (q.1 1 1) ≤ 10 := rg_1_1 hT
          exact dOk_some (show (TC q) ∧ (cFr [] [(1, 1), (1, 2), (1, 3), (2, 4)] q q) ∧ ((Int32.toInt p1 = 1 ∧ Int32.toInt (q.1 1 1) = Int32.toInt p2) ∨ (¬ Int32.toInt p1 = 1 ∧ Int32.toInt (q.1 1 1) = Int32.toInt (q.1 1 1))) from ⟨hT, (cFr.rf (q := q)), by omega⟩)

set_option maxHeartbeats 4000000 in
set_option maxRecDepth 100000 in
theorem ok_X9_terms_s0 (q : dK) (p1 : Int32) (p2 : Int32) (hT : TC q) : dOk (zX9_terms_s0 q p1 p2) (fun (o : Int32 × dK) => (TC o.2) ∧ (cFr [48] [(0, 18), (1, 1), (1, 2), (1, 3), (2, 4), (10, 2)] q o.2) ∧ ((Int32.toInt p1 = 1 ∧ 0 ≤ Int32.toInt p2 ∧ Int32.toInt p2 ≤ 10 ∧ Int32.toInt (o.2.1 1 1) = Int32.toInt p2) ∨ ((¬ Int32.toInt p1 = 1 ∨ Int32.toInt p2 < 0 ∨ 10 < Int32.toInt p2) ∧ Int32.toInt (o.2.1 1 1) = Int32.toInt (q.1 1 1)))) := by
  unfold zX9_terms_s0
  refine dOk_lt (A := Int32.toInt p2) (B := 0) rfl (by decide) (fun c_1 => ?_) (fun c_2 => ?_)
  · unfold zX9_terms_s0_12
    refine dOk_B (ok_X9_refuse_s0 q (-1) hT) (fun r_3 q_4 h_5 => ?_)
    replace h_5 : (TC q_4) ∧ (cFr [48] [(0, 18)] q q_4) ∧ (Int32.toInt r_3 = (-1 : Int)) := h_5
    obtain ⟨i_6, i_7, i_8⟩ := h_5
    have hFq_4 : cFr [48] [(0, 18), (1, 1), (1, 2), (1, 3), (2, 4), (10, 2)] q q_4 := (cFr.rf (q := q)).t i_7 (by decide) (by decide)
    have f_9 : 0 ≤ Int32.toInt (q_4.1 1 1) ∧ Int32.toInt (q_4.1 1 1) ≤ 10 := rg_1_1 i_6
    have f_10 : 0 ≤ Int32.toInt (q.1 1 1) ∧ Int32.toInt (q.1 1 1) ≤ 10 := rg_1_1 hT
    have w_11 : Int32.toInt (q_4.1 1 1) = Int32.toInt (q.1 1 1) := by rw [i_7.1 1 1 (by decide) (by decide)]
    exact dOk_some (show (TC q_4) ∧ (cFr [48] [(0, 18), (1, 1), (1, 2), (1, 3), (2, 4), (10, 2)] q q_4) ∧ ((Int32.toInt p1 = 1 ∧ 0 ≤ Int32.toInt p2 ∧ Int32.toInt p2 ≤ 10 ∧ Int32.toInt (q_4.1 1 1) = Int32.toInt p2) ∨ ((¬ Int32.toInt p1 = 1 ∨ Int32.toInt p2 < 0 ∨ 10 < Int32.toInt p2) ∧ Int32.toInt (q_4.1 1 1) = Int32.toInt (q.1 1 1))) from ⟨i_6, hFq_4, by omega⟩)
  · refine dOk_V (ok_X9_mostOfTerm p1) (fun r_12 h_13 => ?_)
    replace h_13 : ((Int32.toInt p1 = 0 ∧ Int32.toInt r_12 = 999) ∨ (Int32.toInt p1 = 1 ∧ Int32.toInt r_12 = 10) ∨ (Int32.toInt p1 = 2 ∧ Int32.toInt r_12 = 9) ∨ (Int32.toInt p1 = 3 ∧ Int32.toInt r_12 = 1) ∨ (Int32.toInt r_12 = -1 ∧ ¬ Int32.toInt p1 = 1)) := h_13
    have i_14 := h_13
    refine dOk_le (A := Int32.toInt p2) (B := Int32.toInt r_12) rfl rfl (fun c_15 => ?_) (fun c_16 => ?_)
    · refine dOk_B (ok_X6_term_s1 q p1 hT) (fun r_17 q_18 h_19 => ?_)
      replace h_19 : (q_18 = q) := h_19
      have i_20 := h_19
      subst q_18
      refine dOk_V (ok_X6_setTerm_s1 q p1 p2 hT (show 0 ≤ Int32.toInt p2 by omega) (show (Int32.toInt p1 = 0 ∧ Int32.toInt p2 ≤ 999) ∨ (Int32.toInt p1 = 1 ∧ Int32.toInt p2 ≤ 10) ∨ (¬ Int32.toInt p1 = 0 ∧ ¬ Int32.toInt p1 = 1) by omega)) (fun q_21 h_22 => ?_)
      replace h_22 : (TC q_21) ∧ (cFr [] [(1, 1), (1, 2), (1, 3), (2, 4)] q q_21) ∧ ((Int32.toInt p1 = 1 ∧ Int32.toInt (q_21.1 1 1) = Int32.toInt p2) ∨ (¬ Int32.toInt p1 = 1 ∧ Int32.toInt (q_21.1 1 1) = Int32.toInt (q.1 1 1))) := h_22
      obtain ⟨i_23, i_24, i_25⟩ := h_22
      have hFq_21 : cFr [48] [(0, 18), (1, 1), (1, 2), (1, 3), (2, 4), (10, 2)] q q_21 := (cFr.rf (q := q)).t i_24 (by decide) (by decide)
      have f_26 : 0 ≤ Int32.toInt (q_21.1 1 1) ∧ Int32.toInt (q_21.1 1 1) ≤ 10 := rg_1_1 i_23
      have f_27 : 0 ≤ Int32.toInt (q.1 1 1) ∧ Int32.toInt (q.1 1 1) ≤ 10 := rg_1_1 hT
      refine dOk_V (ok_X0_clear_s10 q_21 i_23) (fun q_28 h_29 => ?_)
      replace h_29 : (TC q_28) ∧ (cFr [] [(10, 2)] q_21 q_28) := h_29
      obtain ⟨i_30, i_31⟩ := h_29
      have hFq_28 : cFr [48] [(0, 18), (1, 1), (1, 2), (1, 3), (2, 4), (10, 2)] q q_28 := hFq_21.t i_31 (by decide) (by decide)
      refine dOk_B (ok_X9_accept_s0 q_28 r_17 i_30) (fun r_32 q_33 h_34 => ?_)
      replace h_34 : (TC q_33) ∧ (cFr [] [(0, 18)] q_28 q_33) ∧ (Int32.toInt r_32 = Int32.toInt r_17) := h_34
      obtain ⟨i_35, i_36, i_37⟩ := h_34
      have hFq_33 : cFr [48] [(0, 18), (1, 1), (1, 2), (1, 3), (2, 4), (10, 2)] q q_33 := hFq_28.t i_36 (by decide) (by decide)
      have f_38 : 0 ≤ Int32.toInt (q_33.1 1 1) ∧ Int32.toInt (q_33.1 1 1) ≤ 10 := rg_1_1 i_35
      have f_39 : 0 ≤ Int32.toInt (q_28.1 1 1) ∧ Int32.toInt (q_28.1 1 1) ≤ 10 := rg_1_1 i_30
      have w_40 : Int32.toInt (q_28.1 1 1) = Int32.toInt (q_21.1 1 1) := by rw [i_31.1 1 1 (by decide) (by decide)]
      have w_41 : Int32.toInt (q_33.1 1 1) = Int32.toInt (q_28.1 1 1) := by rw [i_36.1 1 1 (by decide) (by decide)]
      exact dOk_some (show (TC q_33) ∧ (cFr [48] [(0, 18), (1, 1), (1, 2), (1, 3), (2, 4), (10, 2)] q q_33) ∧ ((Int32.toInt p1 = 1 ∧ 0 ≤ Int32.toInt p2 ∧ Int32.toInt p2 ≤ 10 ∧ Int32.toInt (q_33.1 1 1) = Int32.toInt p2) ∨ ((¬ Int32.toInt p1 = 1 ∨ Int32.toInt p2 < 0 ∨ 10 < Int32.toInt p2) ∧ Int32.toInt (q_33.1 1 1) = Int32.toInt (q.1 1 1))) from ⟨i_35, hFq_33, by omega⟩)
    · unfold zX9_terms_s0_12
      refine dOk_B (ok_X9_refuse_s0 q (-1) hT) (fun r_42 q_43 h_44 => ?_)
      replace h_44 : (TC q_43) ∧ (cFr [48] [(0, 18)] q q_43) ∧ (Int32.toInt r_42 = (-1 : Int)) := h_44
      obtain ⟨i_45, i_46, i_47⟩ := h_44
      have hFq_43 : cFr [48] [(0, 18), (1, 1), (1, 2), (1, 3), (2, 4), (10, 2)] q q_43 := (cFr.rf (q := q)).t i_46 (by decide) (by decide)
      have f_48 : 0 ≤ Int32.toInt (q_43.1 1 1) ∧ Int32.toInt (q_43.1 1 1) ≤ 10 := rg_1_1 i_45
      have f_49 : 0 ≤ Int32.toInt (q.1 1 1) ∧ Int32.toInt (q.1 1 1) ≤ 10 := rg_1_1 hT
      have w_50 : Int32.toInt (q_43.1 1 1) = Int32.toInt (q.1 1 1) := by rw [i_46.1 1 1 (by decide) (by decide)]
      exact dOk_some (show (TC q_43) ∧ (cFr [48] [(0, 18), (1, 1), (1, 2), (1, 3), (2, 4), (10, 2)] q q_43) ∧ ((Int32.toInt p1 = 1 ∧ 0 ≤ Int32.toInt p2 ∧ Int32.toInt p2 ≤ 10 ∧ Int32.toInt (q_43.1 1 1) = Int32.toInt p2) ∨ ((¬ Int32.toInt p1 = 1 ∨ Int32.toInt p2 < 0 ∨ 10 < Int32.toInt p2) ∧ Int32.toInt (q_43.1 1 1) = Int32.toInt (q.1 1 1))) from ⟨i_45, hFq_43, by omega⟩)

set_option maxHeartbeats 4000000 in
set_option maxRecDepth 100000 in
theorem ok_X9_feedFour_s0 (q : dK) (p1 : Int32) (hT : TC q) : dOk (zX9_feedFour_s0 q p1) (fun (o : dK) => (TC o) ∧ (cFr [46] [(0, 12)] q o) ∧ (Int32.toInt (q.1 0 12) + 4 ≤ 400 → Int32.toInt (o.1 0 12) = Int32.toInt (q.1 0 12) + 4)) := by
  unfold zX9_feedFour_s0
  unfold zX9_feedFour_s0_3
  refine dFix_ok (fun (a : dK × Int32 × Int32) => (TC a.1) ∧ (cFr [46] [(0, 12)] q a.1) ∧ (a.2.1 = p1) ∧ (-8 ≤ Int32.toInt a.2.2) ∧ (Int32.toInt a.2.2 ≤ 24) ∧ (Int32.toInt (q.1 0 12) + 4 ≤ 400 → 8 * Int32.toInt (a.1.1 0 12) = 8 * Int32.toInt (q.1 0 12) + (24 - Int32.toInt a.2.2))) (fun (a : dK × Int32 × Int32) => (Int32.toInt a.2.2 + 8).toNat) ?_ _ ?_ _ (dF_gt ?_)
  · intro a ha k_2 hk_1
    obtain ⟨q_3, x1_4, x2_5⟩ := a
    replace ha : (TC q_3) ∧ (cFr [46] [(0, 12)] q q_3) ∧ (x1_4 = p1) ∧ (-8 ≤ Int32.toInt x2_5) ∧ (Int32.toInt x2_5 ≤ 24) ∧ (Int32.toInt (q.1 0 12) + 4 ≤ 400 → 8 * Int32.toInt (q_3.1 0 12) = 8 * Int32.toInt (q.1 0 12) + (24 - Int32.toInt x2_5)) := ha
    obtain ⟨a_6, a_7, a_8, a_9, a_10, a_11⟩ := ha
    show dOk (zX9_feedFour_s0_3b  (fun q x1 x2 => k_2 (q, x1, x2)) q_3 x1_4 x2_5) _
    unfold zX9_feedFour_s0_3b
    have hFq_3 : cFr [46] [(0, 12)] q q_3 := (cFr.rf (q := q)).t a_7 (by decide) (by decide)
    subst x1_4
    have f_12 : 0 ≤ Int32.toInt (q.1 0 12) ∧ Int32.toInt (q.1 0 12) ≤ 400 := rg_0_12 hT
    have f_13 : 0 ≤ Int32.toInt (q_3.1 0 12) ∧ Int32.toInt (q_3.1 0 12) ≤ 400 := rg_0_12 a_6
    refine dOk_lt (A := Int32.toInt x2_5) (B := 0) rfl (by decide) (fun c_14 => ?_) (fun c_15 => ?_)
    · exact dOk_some (show (TC q_3) ∧ (cFr [46] [(0, 12)] q q_3) ∧ (Int32.toInt (q.1 0 12) + 4 ≤ 400 → Int32.toInt (q_3.1 0 12) = Int32.toInt (q.1 0 12) + 4) from ⟨a_6, hFq_3, by omega⟩)
    · refine dOk_le (A := 400) (B := Int32.toInt (q_3.1 0 12)) (by decide) rfl (fun c_16 => ?_) (fun c_17 => ?_)
      · unfold zX9_feedFour_s0_43
        try have t_18 : Int32.toInt (x2_5 + (-8)) = Int32.toInt x2_5 + (-8) := ti_add rfl (by decide) (by omega) (by omega)
        exact hk_1 (q_3, p1, (x2_5 + (-8))) (show (TC q_3) ∧ (cFr [46] [(0, 12)] q q_3) ∧ (p1 = p1) ∧ (-8 ≤ Int32.toInt (x2_5 + (-8))) ∧ (Int32.toInt (x2_5 + (-8)) ≤ 24) ∧ (Int32.toInt (q.1 0 12) + 4 ≤ 400 → 8 * Int32.toInt (q_3.1 0 12) = 8 * Int32.toInt (q.1 0 12) + (24 - Int32.toInt (x2_5 + (-8)))) from ⟨a_6, ((cFr.rf : cFr [46] [(0, 12)] q q).t a_7 (by decide) (by decide)), rfl, by omega, by omega, by omega⟩) (show (Int32.toInt (x2_5 + (-8)) + 8).toNat < (Int32.toInt x2_5 + 8).toNat by omega)
      · refine dOk_L (fun v_19 ev_19 => ?_)
        refine dOk_G (dg_ok (show 0 ≤ Int32.toInt (q_3.1 0 12) by omega) (show Int32.toInt (q_3.1 0 12) < ((400 : Nat) : Int) by omega)) ?_
        have n_20 : ((Int32.toNatClampNeg (q_3.1 0 12) : Nat) : Int) = Int32.toInt (q_3.1 0 12) := cl_eq (by omega)
        refine dOk_L (fun q_21 eq_21 => ?_)
        have hTq_21 : TC q_21 := by rw [eq_21]; exact sa_46 a_6
        have hFq_21 : cFr [46] [(0, 12)] q q_21 := by rw [eq_21]; exact hFq_3.i (by decide)
        refine dOk_L (fun q_22 eq_22 => ?_)
        have f_23 : 0 ≤ Int32.toInt (q_21.1 0 12) ∧ Int32.toInt (q_21.1 0 12) ≤ 400 := rg_0_12 hTq_21
        try have w_24 : Int32.toInt (q_21.1 0 12) = Int32.toInt (q_3.1 0 12) := by rw [eq_21, cui_o (by decide)]
        try have t_25 : Int32.toInt (q_21.1 0 12 + 1) = Int32.toInt (q_21.1 0 12) + 1 := ti_add rfl (by decide) (by omega) (by omega)
        have hTq_22 : TC q_22 := by rw [eq_22]; exact st_0_12 hTq_21 (show (0 : Int) ≤ Int32.toInt (q_21.1 0 12 + 1) by omega) (show Int32.toInt (q_21.1 0 12 + 1) ≤ (400 : Int) by omega)
        have hFq_22 : cFr [46] [(0, 12)] q q_22 := by rw [eq_22]; exact hFq_21.f (by decide)
        unfold zX9_feedFour_s0_43
        try have t_26 : Int32.toInt (x2_5 + (-8)) = Int32.toInt x2_5 + (-8) := ti_add rfl (by decide) (by omega) (by omega)
        have f_27 : 0 ≤ Int32.toInt (q_22.1 0 12) ∧ Int32.toInt (q_22.1 0 12) ≤ 400 := rg_0_12 hTq_22
        have w_28 : Int32.toInt (q_22.1 0 12) = Int32.toInt (q_21.1 0 12 + 1) := by rw [eq_22, cui_e]
        exact hk_1 (q_22, p1, (x2_5 + (-8))) (show (TC q_22) ∧ (cFr [46] [(0, 12)] q q_22) ∧ (p1 = p1) ∧ (-8 ≤ Int32.toInt (x2_5 + (-8))) ∧ (Int32.toInt (x2_5 + (-8)) ≤ 24) ∧ (Int32.toInt (q.1 0 12) + 4 ≤ 400 → 8 * Int32.toInt (q_22.1 0 12) = 8 * Int32.toInt (q.1 0 12) + (24 - Int32.toInt (x2_5 + (-8)))) from ⟨hTq_22, (by rw [eq_22]; exact ((by rw [eq_21]; exact (((cFr.rf : cFr [46] [(0, 12)] q q).t a_7 (by decide) (by decide)) : cFr [46] [(0, 12)] q q_3).i (by decide)) : cFr [46] [(0, 12)] q q_21).f (by decide)), rfl, by omega, by omega, by omega⟩) (show (Int32.toInt (x2_5 + (-8)) + 8).toNat < (Int32.toInt x2_5 + 8).toNat by omega)
  · have f_29 : 0 ≤ Int32.toInt (q.1 0 12) ∧ Int32.toInt (q.1 0 12) ≤ 400 := rg_0_12 hT
    exact (show (TC q) ∧ (cFr [46] [(0, 12)] q q) ∧ (p1 = p1) ∧ (-8 ≤ (24 : Int)) ∧ ((24 : Int) ≤ 24) ∧ (Int32.toInt (q.1 0 12) + 4 ≤ 400 → 8 * Int32.toInt (q.1 0 12) = 8 * Int32.toInt (q.1 0 12) + (24 - (24 : Int))) from ⟨hT, cFr.rf, rfl, by omega, by omega, by omega⟩)
  · show ((24 : Int) + 8).toNat < 1000000000000
    omega

set_option maxHeartbeats 4000000 in
set_option maxRecDepth 100000 in
theorem ok_X9_feed_s0 (q : dK) (p1 : Int32) (p2 : Int32) (p3 : Int32) (p4 : Int32) (p5 : Int32) (hT : TC q) : dOk (zX9_feed_s0 q p1 p2 p3 p4 p5) (fun (o : Int32 × dK) => (TC o.2) ∧ (cFr [46] [(0, 12)] q o.2) ∧ ((Int32.toInt (q.1 0 12) ≤ 380 ∧ Int32.toInt (o.2.1 0 12) = Int32.toInt (q.1 0 12) + 20 ∧ Int32.toInt o.1 = Int32.toInt (o.2.1 0 12)) ∨ (380 < Int32.toInt (q.1 0 12) ∧ Int32.toInt (o.2.1 0 12) = Int32.toInt (q.1 0 12) ∧ Int32.toInt o.1 = -1))) := by
  unfold zX9_feed_s0
  have f_1 : 0 ≤ Int32.toInt (q.1 0 12) ∧ Int32.toInt (q.1 0 12) ≤ 400 := rg_0_12 hT
  try have t_2 : Int32.toInt (q.1 0 12 + 20) = Int32.toInt (q.1 0 12) + 20 := ti_add rfl (by decide) (by omega) (by omega)
  refine dOk_le (A := Int32.toInt (q.1 0 12 + 20)) (B := 400) rfl (by decide) (fun c_3 => ?_) (fun c_4 => ?_)
  · refine dOk_V (ok_X9_feedFour_s0 q p1 hT) (fun q_5 h_6 => ?_)
    replace h_6 : (TC q_5) ∧ (cFr [46] [(0, 12)] q q_5) ∧ (Int32.toInt (q.1 0 12) + 4 ≤ 400 → Int32.toInt (q_5.1 0 12) = Int32.toInt (q.1 0 12) + 4) := h_6
    obtain ⟨i_7, i_8, i_9⟩ := h_6
    have hFq_5 : cFr [46] [(0, 12)] q q_5 := (cFr.rf (q := q)).t i_8 (by decide) (by decide)
    have f_10 : 0 ≤ Int32.toInt (q_5.1 0 12) ∧ Int32.toInt (q_5.1 0 12) ≤ 400 := rg_0_12 i_7
    refine dOk_V (ok_X9_feedFour_s0 q_5 p2 i_7) (fun q_11 h_12 => ?_)
    replace h_12 : (TC q_11) ∧ (cFr [46] [(0, 12)] q_5 q_11) ∧ (Int32.toInt (q_5.1 0 12) + 4 ≤ 400 → Int32.toInt (q_11.1 0 12) = Int32.toInt (q_5.1 0 12) + 4) := h_12
    obtain ⟨i_13, i_14, i_15⟩ := h_12
    have hFq_11 : cFr [46] [(0, 12)] q q_11 := hFq_5.t i_14 (by decide) (by decide)
    have f_16 : 0 ≤ Int32.toInt (q_11.1 0 12) ∧ Int32.toInt (q_11.1 0 12) ≤ 400 := rg_0_12 i_13
    refine dOk_V (ok_X9_feedFour_s0 q_11 p3 i_13) (fun q_17 h_18 => ?_)
    replace h_18 : (TC q_17) ∧ (cFr [46] [(0, 12)] q_11 q_17) ∧ (Int32.toInt (q_11.1 0 12) + 4 ≤ 400 → Int32.toInt (q_17.1 0 12) = Int32.toInt (q_11.1 0 12) + 4) := h_18
    obtain ⟨i_19, i_20, i_21⟩ := h_18
    have hFq_17 : cFr [46] [(0, 12)] q q_17 := hFq_11.t i_20 (by decide) (by decide)
    have f_22 : 0 ≤ Int32.toInt (q_17.1 0 12) ∧ Int32.toInt (q_17.1 0 12) ≤ 400 := rg_0_12 i_19
    refine dOk_V (ok_X9_feedFour_s0 q_17 p4 i_19) (fun q_23 h_24 => ?_)
    replace h_24 : (TC q_23) ∧ (cFr [46] [(0, 12)] q_17 q_23) ∧ (Int32.toInt (q_17.1 0 12) + 4 ≤ 400 → Int32.toInt (q_23.1 0 12) = Int32.toInt (q_17.1 0 12) + 4) := h_24
    obtain ⟨i_25, i_26, i_27⟩ := h_24
    have hFq_23 : cFr [46] [(0, 12)] q q_23 := hFq_17.t i_26 (by decide) (by decide)
    have f_28 : 0 ≤ Int32.toInt (q_23.1 0 12) ∧ Int32.toInt (q_23.1 0 12) ≤ 400 := rg_0_12 i_25
    refine dOk_V (ok_X9_feedFour_s0 q_23 p5 i_25) (fun q_29 h_30 => ?_)
    replace h_30 : (TC q_29) ∧ (cFr [46] [(0, 12)] q_23 q_29) ∧ (Int32.toInt (q_23.1 0 12) + 4 ≤ 400 → Int32.toInt (q_29.1 0 12) = Int32.toInt (q_23.1 0 12) + 4) := h_30
    obtain ⟨i_31, i_32, i_33⟩ := h_30
    have hFq_29 : cFr [46] [(0, 12)] q q_29 := hFq_23.t i_32 (by decide) (by decide)
    have f_34 : 0 ≤ Int32.toInt (q_29.1 0 12) ∧ Int32.toInt (q_29.1 0 12) ≤ 400 := rg_0_12 i_31
    exact dOk_some (show (TC q_29) ∧ (cFr [46] [(0, 12)] q q_29) ∧ ((Int32.toInt (q.1 0 12) ≤ 380 ∧ Int32.toInt (q_29.1 0 12) = Int32.toInt (q.1 0 12) + 20 ∧ Int32.toInt (q_29.1 0 12) = Int32.toInt (q_29.1 0 12)) ∨ (380 < Int32.toInt (q.1 0 12) ∧ Int32.toInt (q_29.1 0 12) = Int32.toInt (q.1 0 12) ∧ Int32.toInt (q_29.1 0 12) = -1)) from ⟨i_31, hFq_29, by omega⟩)
  · exact dOk_some (show (TC q) ∧ (cFr [46] [(0, 12)] q q) ∧ ((Int32.toInt (q.1 0 12) ≤ 380 ∧ Int32.toInt (q.1 0 12) = Int32.toInt (q.1 0 12) + 20 ∧ (-1 : Int) = Int32.toInt (q.1 0 12)) ∨ (380 < Int32.toInt (q.1 0 12) ∧ Int32.toInt (q.1 0 12) = Int32.toInt (q.1 0 12) ∧ (-1 : Int) = -1)) from ⟨hT, (cFr.rf (q := q)), by omega⟩)

set_option maxHeartbeats 4000000 in
set_option maxRecDepth 100000 in
theorem ok_X9_end_s0 (q : dK) (p1 : Int32) (hT : TC q) : dOk (zX9_end_s0 q p1) (fun (o : Int32 × dK) => (TC o.2) ∧ (cFr [] [(0, 12)] q o.2) ∧ ((0 ≤ Int32.toInt p1 ∧ Int32.toInt p1 ≤ Int32.toInt (q.1 0 12) ∧ Int32.toInt (o.2.1 0 12) = Int32.toInt p1 ∧ Int32.toInt o.1 = Int32.toInt p1) ∨ ((Int32.toInt p1 < 0 ∨ Int32.toInt (q.1 0 12) < Int32.toInt p1) ∧ Int32.toInt (o.2.1 0 12) = Int32.toInt (q.1 0 12) ∧ Int32.toInt o.1 = -1))) := by
  unfold zX9_end_s0
  refine dOk_lt (A := Int32.toInt p1) (B := 0) rfl (by decide) (fun c_1 => ?_) (fun c_2 => ?_)
  · unfold zX9_end_s0_12
    have f_3 : 0 ≤ Int32.toInt (q.1 0 12) ∧ Int32.toInt (q.1 0 12) ≤ 400 := rg_0_12 hT
    exact dOk_some (show (TC q) ∧ (cFr [] [(0, 12)] q q) ∧ ((0 ≤ Int32.toInt p1 ∧ Int32.toInt p1 ≤ Int32.toInt (q.1 0 12) ∧ Int32.toInt (q.1 0 12) = Int32.toInt p1 ∧ (-1 : Int) = Int32.toInt p1) ∨ ((Int32.toInt p1 < 0 ∨ Int32.toInt (q.1 0 12) < Int32.toInt p1) ∧ Int32.toInt (q.1 0 12) = Int32.toInt (q.1 0 12) ∧ (-1 : Int) = -1)) from ⟨hT, (cFr.rf (q := q)), by omega⟩)
  · have f_4 : 0 ≤ Int32.toInt (q.1 0 12) ∧ Int32.toInt (q.1 0 12) ≤ 400 := rg_0_12 hT
    refine dOk_le (A := Int32.toInt p1) (B := Int32.toInt (q.1 0 12)) rfl rfl (fun c_5 => ?_) (fun c_6 => ?_)
    · refine dOk_L (fun q_7 eq_7 => ?_)
      have hTq_7 : TC q_7 := by rw [eq_7]; exact st_0_12 hT (show (0 : Int) ≤ Int32.toInt p1 by omega) (show Int32.toInt p1 ≤ (400 : Int) by omega)
      have hFq_7 : cFr [] [(0, 12)] q q_7 := by rw [eq_7]; exact (cFr.rf (q := q)).f (by decide)
      have f_8 : 0 ≤ Int32.toInt (q_7.1 0 12) ∧ Int32.toInt (q_7.1 0 12) ≤ 400 := rg_0_12 hTq_7
      have w_9 : Int32.toInt (q_7.1 0 12) = Int32.toInt p1 := by rw [eq_7, cui_e]
      exact dOk_some (show (TC q_7) ∧ (cFr [] [(0, 12)] q q_7) ∧ ((0 ≤ Int32.toInt p1 ∧ Int32.toInt p1 ≤ Int32.toInt (q.1 0 12) ∧ Int32.toInt (q_7.1 0 12) = Int32.toInt p1 ∧ Int32.toInt p1 = Int32.toInt p1) ∨ ((Int32.toInt p1 < 0 ∨ Int32.toInt (q.1 0 12) < Int32.toInt p1) ∧ Int32.toInt (q_7.1 0 12) = Int32.toInt (q.1 0 12) ∧ Int32.toInt p1 = -1)) from ⟨hTq_7, hFq_7, by omega⟩)
    · unfold zX9_end_s0_12
      exact dOk_some (show (TC q) ∧ (cFr [] [(0, 12)] q q) ∧ ((0 ≤ Int32.toInt p1 ∧ Int32.toInt p1 ≤ Int32.toInt (q.1 0 12) ∧ Int32.toInt (q.1 0 12) = Int32.toInt p1 ∧ (-1 : Int) = Int32.toInt p1) ∨ ((Int32.toInt p1 < 0 ∨ Int32.toInt (q.1 0 12) < Int32.toInt p1) ∧ Int32.toInt (q.1 0 12) = Int32.toInt (q.1 0 12) ∧ (-1 : Int) = -1)) from ⟨hT, (cFr.rf (q := q)), by omega⟩)

set_option maxHeartbeats 4000000 in
set_option maxRecDepth 100000 in
theorem ok_X9_isNewFloor_s0 (q : dK) (p1 : Int32) (p2 : Int32) (hT : TC q) : dOk (zX9_isNewFloor_s0 q p1 p2) (fun (o : Int32 × dK) => (o.2 = q) ∧ ((Int32.toInt o.1 = 1 ∧ 0 ≤ Int32.toInt p1 ∧ Int32.toInt p1 ≤ 5 ∧ 0 ≤ Int32.toInt p2 ∧ Int32.toInt p2 ≤ 1) ∨ Int32.toInt o.1 = 0)) := by
  unfold zX9_isNewFloor_s0
  refine dOk_V (ok_X9_isRank p1) (fun r_1 h_2 => ?_)
  replace h_2 : ((Int32.toInt r_1 = 1 ∧ 0 ≤ Int32.toInt p1 ∧ Int32.toInt p1 ≤ 5) ∨ (Int32.toInt r_1 = 0 ∧ (Int32.toInt p1 < 0 ∨ 5 < Int32.toInt p1))) := h_2
  have i_3 := h_2
  refine dOk_eq (A := Int32.toInt r_1) (B := 0) rfl (by decide) (fun c_4z c_4 => ?_) (fun c_5z c_5 => ?_)
  · unfold zX9_isNewFloor_s0_32
    unfold zX9_isNewFloor_s0_33
    refine dOk_G (dbl_ok (show (0 : Int) = 0 ∨ (0 : Int) = 1 by omega)) ?_
    exact dOk_some (show (q = q) ∧ (((0 : Int) = 1 ∧ 0 ≤ Int32.toInt p1 ∧ Int32.toInt p1 ≤ 5 ∧ 0 ≤ Int32.toInt p2 ∧ Int32.toInt p2 ≤ 1) ∨ (0 : Int) = 0) from ⟨rfl, by omega⟩)
  · refine dOk_V (ok_X9_isBit p2) (fun r_7 h_8 => ?_)
    replace h_8 : ((Int32.toInt r_7 = 1 ∧ 0 ≤ Int32.toInt p2 ∧ Int32.toInt p2 ≤ 1) ∨ (Int32.toInt r_7 = 0 ∧ (Int32.toInt p2 < 0 ∨ 1 < Int32.toInt p2))) := h_8
    have i_9 := h_8
    refine dOk_eq (A := Int32.toInt r_7) (B := 0) rfl (by decide) (fun c_10z c_10 => ?_) (fun c_11z c_11 => ?_)
    · unfold zX9_isNewFloor_s0_32
      unfold zX9_isNewFloor_s0_33
      refine dOk_G (dbl_ok (show (0 : Int) = 0 ∨ (0 : Int) = 1 by omega)) ?_
      exact dOk_some (show (q = q) ∧ (((0 : Int) = 1 ∧ 0 ≤ Int32.toInt p1 ∧ Int32.toInt p1 ≤ 5 ∧ 0 ≤ Int32.toInt p2 ∧ Int32.toInt p2 ≤ 1) ∨ (0 : Int) = 0) from ⟨rfl, by omega⟩)
    · refine dOk_B (ok_X8_has_s2 q p1 hT) (fun r_13 q_14 h_15 => ?_)
      replace h_15 : (q_14 = q) ∧ ((Int32.toInt r_13 = 0 ∨ Int32.toInt r_13 = 1)) := h_15
      obtain ⟨i_16, i_17⟩ := h_15
      subst q_14
      refine dOk_eq (A := Int32.toInt r_13) (B := 0) rfl (by decide) (fun c_18z c_18 => ?_) (fun c_19z c_19 => ?_)
      · unfold zX9_isNewFloor_s0_33
        refine dOk_G (dbl_ok (show (1 : Int) = 0 ∨ (1 : Int) = 1 by omega)) ?_
        exact dOk_some (show (q = q) ∧ (((1 : Int) = 1 ∧ 0 ≤ Int32.toInt p1 ∧ Int32.toInt p1 ≤ 5 ∧ 0 ≤ Int32.toInt p2 ∧ Int32.toInt p2 ≤ 1) ∨ (1 : Int) = 0) from ⟨rfl, by omega⟩)
      · unfold zX9_isNewFloor_s0_32
        unfold zX9_isNewFloor_s0_33
        refine dOk_G (dbl_ok (show (0 : Int) = 0 ∨ (0 : Int) = 1 by omega)) ?_
        exact dOk_some (show (q = q) ∧ (((0 : Int) = 1 ∧ 0 ≤ Int32.toInt p1 ∧ Int32.toInt p1 ≤ 5 ∧ 0 ≤ Int32.toInt p2 ∧ Int32.toInt p2 ≤ 1) ∨ (0 : Int) = 0) from ⟨rfl, by omega⟩)

set_option maxHeartbeats 4000000 in
set_option maxRecDepth 100000 in
theorem ok_X9_row_s0 (q : dK) (hT : TC q) : dOk (zX9_row_s0 q) (fun (o : Int32 × dK) => (TC o.2) ∧ (cFr [3, 4, 48] [(0, 12), (0, 14), (0, 18), (2, 2), (10, 2)] q o.2) ∧ (Int32.toInt (o.2.1 0 12) = 0)) := by
  unfold zX9_row_s0
  have f_1 : 0 ≤ Int32.toInt (q.1 0 12) ∧ Int32.toInt (q.1 0 12) ≤ 400 := rg_0_12 hT
  refine dOk_eq (A := Int32.toInt (q.1 0 12)) (B := 0) rfl (by decide) (fun c_2z c_2 => ?_) (fun c_3z c_3 => ?_)
  · refine dOk_B (ok_X9_refuse_s0 q (-6) hT) (fun r_5 q_6 h_7 => ?_)
    replace h_7 : (TC q_6) ∧ (cFr [48] [(0, 18)] q q_6) ∧ (Int32.toInt r_5 = (-6 : Int)) := h_7
    obtain ⟨i_8, i_9, i_10⟩ := h_7
    have hFq_6 : cFr [3, 4, 48] [(0, 12), (0, 14), (0, 18), (2, 2), (10, 2)] q q_6 := (cFr.rf (q := q)).t i_9 (by decide) (by decide)
    have f_11 : 0 ≤ Int32.toInt (q_6.1 0 12) ∧ Int32.toInt (q_6.1 0 12) ≤ 400 := rg_0_12 i_8
    have w_12 : Int32.toInt (q_6.1 0 12) = Int32.toInt (q.1 0 12) := by rw [i_9.1 0 12 (by decide) (by decide)]
    exact dOk_some (show (TC q_6) ∧ (cFr [3, 4, 48] [(0, 12), (0, 14), (0, 18), (2, 2), (10, 2)] q q_6) ∧ (Int32.toInt (q_6.1 0 12) = 0) from ⟨i_8, hFq_6, by omega⟩)
  · unfold zX9_row_s0_20
    refine dFix_ok (fun (a : dK × Int32 × Int32 × Int32) => (TC a.1) ∧ (cFr [3, 4] [(2, 2)] q a.1) ∧ (0 ≤ Int32.toInt a.2.2.2) ∧ (Int32.toInt a.2.2.2 ≤ 402)) (fun (a : dK × Int32 × Int32 × Int32) => (402 - Int32.toInt a.2.2.2).toNat) ?_ _ ?_ _ (dF_gt ?_)
    · intro a ha k_14 hk_13
      obtain ⟨q_15, x1_16, x2_17, x3_18⟩ := a
      replace ha : (TC q_15) ∧ (cFr [3, 4] [(2, 2)] q q_15) ∧ (0 ≤ Int32.toInt x3_18) ∧ (Int32.toInt x3_18 ≤ 402) := ha
      obtain ⟨a_19, a_20, a_21, a_22⟩ := ha
      show dOk (zX9_row_s0_20b  (fun q x1 x2 x3 => k_14 (q, x1, x2, x3)) q_15 x1_16 x2_17 x3_18) _
      unfold zX9_row_s0_20b
      have hFq_15 : cFr [3, 4, 48] [(0, 12), (0, 14), (0, 18), (2, 2), (10, 2)] q q_15 := (cFr.rf (q := q)).t a_20 (by decide) (by decide)
      have f_23 : 0 ≤ Int32.toInt (q_15.1 0 12) ∧ Int32.toInt (q_15.1 0 12) ≤ 400 := rg_0_12 a_19
      have w_24 : Int32.toInt (q_15.1 0 12) = Int32.toInt (q.1 0 12) := by rw [a_20.1 0 12 (by decide) (by decide)]
      refine dOk_le (A := Int32.toInt (q_15.1 0 12)) (B := Int32.toInt x3_18) rfl rfl (fun c_25 => ?_) (fun c_26 => ?_)
      · refine dOk_L (fun q_27 eq_27 => ?_)
        have hTq_27 : TC q_27 := by rw [eq_27]; exact st_0_12 a_19 (show (0 : Int) ≤ (0 : Int) by omega) (show (0 : Int) ≤ (400 : Int) by omega)
        have hFq_27 : cFr [3, 4, 48] [(0, 12), (0, 14), (0, 18), (2, 2), (10, 2)] q q_27 := by rw [eq_27]; exact hFq_15.f (by decide)
        refine dOk_L (fun q_28 eq_28 => ?_)
        have hTq_28 : TC q_28 := by rw [eq_28]; exact sa_0_14 hTq_27
        have hFq_28 : cFr [3, 4, 48] [(0, 12), (0, 14), (0, 18), (2, 2), (10, 2)] q q_28 := by rw [eq_28]; exact hFq_27.f (by decide)
        refine dOk_V (ok_X0_clear_s10 q_28 hTq_28) (fun q_29 h_30 => ?_)
        replace h_30 : (TC q_29) ∧ (cFr [] [(10, 2)] q_28 q_29) := h_30
        obtain ⟨i_31, i_32⟩ := h_30
        have hFq_29 : cFr [3, 4, 48] [(0, 12), (0, 14), (0, 18), (2, 2), (10, 2)] q q_29 := hFq_28.t i_32 (by decide) (by decide)
        refine dOk_B (ok_X9_accept_s0 q_29 x1_16 i_31) (fun r_33 q_34 h_35 => ?_)
        replace h_35 : (TC q_34) ∧ (cFr [] [(0, 18)] q_29 q_34) ∧ (Int32.toInt r_33 = Int32.toInt x1_16) := h_35
        obtain ⟨i_36, i_37, i_38⟩ := h_35
        have hFq_34 : cFr [3, 4, 48] [(0, 12), (0, 14), (0, 18), (2, 2), (10, 2)] q q_34 := hFq_29.t i_37 (by decide) (by decide)
        have f_39 : 0 ≤ Int32.toInt (q_34.1 0 12) ∧ Int32.toInt (q_34.1 0 12) ≤ 400 := rg_0_12 i_36
        have f_40 : 0 ≤ Int32.toInt (q_29.1 0 12) ∧ Int32.toInt (q_29.1 0 12) ≤ 400 := rg_0_12 i_31
        have f_41 : 0 ≤ Int32.toInt (q_28.1 0 12) ∧ Int32.toInt (q_28.1 0 12) ≤ 400 := rg_0_12 hTq_28
        have f_42 : 0 ≤ Int32.toInt (q_27.1 0 12) ∧ Int32.toInt (q_27.1 0 12) ≤ 400 := rg_0_12 hTq_27
        have w_43 : Int32.toInt (q_27.1 0 12) = (0 : Int) := by rw [eq_27, cui_e]; decide
        have w_44 : Int32.toInt (q_28.1 0 12) = Int32.toInt (q_27.1 0 12) := by rw [eq_28, cui_n (by decide)]
        have w_45 : Int32.toInt (q_29.1 0 12) = Int32.toInt (q_28.1 0 12) := by rw [i_32.1 0 12 (by decide) (by decide)]
        have w_46 : Int32.toInt (q_34.1 0 12) = Int32.toInt (q_29.1 0 12) := by rw [i_37.1 0 12 (by decide) (by decide)]
        exact dOk_some (show (TC q_34) ∧ (cFr [3, 4, 48] [(0, 12), (0, 14), (0, 18), (2, 2), (10, 2)] q q_34) ∧ (Int32.toInt (q_34.1 0 12) = 0) from ⟨i_36, hFq_34, by omega⟩)
      · try have t_47 : Int32.toInt (x3_18 + 1) = Int32.toInt x3_18 + 1 := ti_add rfl (by decide) (by omega) (by omega)
        refine dOk_le (A := Int32.toInt (q_15.1 0 12)) (B := Int32.toInt (x3_18 + 1)) rfl rfl (fun c_48 => ?_) (fun c_49 => ?_)
        · unfold zX9_row_s0_92
          unfold zX9_row_s0_95
          try have t_50 : Int32.toInt (x2_17 + 1) = Int32.toInt x2_17 + 1 := ti_add rfl (by decide) (by omega) (by omega)
          try have t_51 : Int32.toInt (x3_18 + 2) = Int32.toInt x3_18 + 2 := ti_add rfl (by decide) (by omega) (by omega)
          exact hk_13 (q_15, x1_16, (x2_17 + 1), (x3_18 + 2)) (show (TC q_15) ∧ (cFr [3, 4] [(2, 2)] q q_15) ∧ (0 ≤ Int32.toInt (x3_18 + 2)) ∧ (Int32.toInt (x3_18 + 2) ≤ 402) from ⟨a_19, ((cFr.rf : cFr [3, 4] [(2, 2)] q q).t a_20 (by decide) (by decide)), by omega, by omega⟩) (show (402 - Int32.toInt (x3_18 + 2)).toNat < (402 - Int32.toInt x3_18).toNat by omega)
        · refine dOk_G (dg_ok (show 0 ≤ Int32.toInt x3_18 by omega) (show Int32.toInt x3_18 < ((400 : Nat) : Int) by omega)) ?_
          have n_52 : ((Int32.toNatClampNeg x3_18 : Nat) : Int) = Int32.toInt x3_18 := cl_eq (by omega)
          refine dOk_L (fun v_53 ev_53 => ?_)
          refine dOk_G (dg_ok (show 0 ≤ Int32.toInt (x3_18 + 1) by omega) (show Int32.toInt (x3_18 + 1) < ((400 : Nat) : Int) by omega)) ?_
          have n_54 : ((Int32.toNatClampNeg (x3_18 + 1) : Nat) : Int) = Int32.toInt (x3_18 + 1) := cl_eq (by omega)
          refine dOk_L (fun v_55 ev_55 => ?_)
          refine dOk_B (ok_X9_isNewFloor_s0 q_15 v_53 v_55 a_19) (fun r_56 q_57 h_58 => ?_)
          replace h_58 : (q_57 = q_15) ∧ ((Int32.toInt r_56 = 1 ∧ 0 ≤ Int32.toInt v_53 ∧ Int32.toInt v_53 ≤ 5 ∧ 0 ≤ Int32.toInt v_55 ∧ Int32.toInt v_55 ≤ 1) ∨ Int32.toInt r_56 = 0) := h_58
          obtain ⟨i_59, i_60⟩ := h_58
          subst q_57
          refine dOk_eq (A := Int32.toInt r_56) (B := 0) rfl (by decide) (fun c_61z c_61 => ?_) (fun c_62z c_62 => ?_)
          · unfold zX9_row_s0_92
            unfold zX9_row_s0_95
            try have t_64 : Int32.toInt (x2_17 + 1) = Int32.toInt x2_17 + 1 := ti_add rfl (by decide) (by omega) (by omega)
            try have t_65 : Int32.toInt (x3_18 + 2) = Int32.toInt x3_18 + 2 := ti_add rfl (by decide) (by omega) (by omega)
            exact hk_13 (q_15, x1_16, (x2_17 + 1), (x3_18 + 2)) (show (TC q_15) ∧ (cFr [3, 4] [(2, 2)] q q_15) ∧ (0 ≤ Int32.toInt (x3_18 + 2)) ∧ (Int32.toInt (x3_18 + 2) ≤ 402) from ⟨a_19, ((cFr.rf : cFr [3, 4] [(2, 2)] q q).t a_20 (by decide) (by decide)), by omega, by omega⟩) (show (402 - Int32.toInt (x3_18 + 2)).toNat < (402 - Int32.toInt x3_18).toNat by omega)
          · refine dOk_G (dg_ok (show 0 ≤ Int32.toInt x3_18 by omega) (show Int32.toInt x3_18 < ((400 : Nat) : Int) by omega)) ?_
            refine dOk_L (fun v_66 ev_66 => ?_)
            have w_67 : Int32.toInt v_66 = Int32.toInt v_53 := by rw [ev_66, ev_53]
            refine dOk_G (dg_ok (show 0 ≤ Int32.toInt (x3_18 + 1) by omega) (show Int32.toInt (x3_18 + 1) < ((400 : Nat) : Int) by omega)) ?_
            refine dOk_L (fun v_68 ev_68 => ?_)
            have w_69 : Int32.toInt v_68 = Int32.toInt v_55 := by rw [ev_68, ev_55]
            refine dOk_B (ok_X8_add_s2 q_15 v_66 v_68 a_19 (show 0 ≤ Int32.toInt v_66 ∧ Int32.toInt v_66 ≤ 7 by omega) (show 0 ≤ Int32.toInt v_68 ∧ Int32.toInt v_68 ≤ 1 by omega)) (fun r_70 q_71 h_72 => ?_)
            replace h_72 : (TC q_71) ∧ (cFr [3, 4] [(2, 2)] q_15 q_71) ∧ ((Int32.toInt r_70 = 0 ∨ Int32.toInt r_70 = 1)) := h_72
            obtain ⟨i_73, i_74, i_75⟩ := h_72
            have hFq_71 : cFr [3, 4, 48] [(0, 12), (0, 14), (0, 18), (2, 2), (10, 2)] q q_71 := hFq_15.t i_74 (by decide) (by decide)
            refine dOk_eq (A := Int32.toInt r_70) (B := 0) rfl (by decide) (fun c_76z c_76 => ?_) (fun c_77z c_77 => ?_)
            · unfold zX9_row_s0_92
              unfold zX9_row_s0_95
              try have t_79 : Int32.toInt (x2_17 + 1) = Int32.toInt x2_17 + 1 := ti_add rfl (by decide) (by omega) (by omega)
              try have t_80 : Int32.toInt (x3_18 + 2) = Int32.toInt x3_18 + 2 := ti_add rfl (by decide) (by omega) (by omega)
              exact hk_13 (q_71, x1_16, (x2_17 + 1), (x3_18 + 2)) (show (TC q_71) ∧ (cFr [3, 4] [(2, 2)] q q_71) ∧ (0 ≤ Int32.toInt (x3_18 + 2)) ∧ (Int32.toInt (x3_18 + 2) ≤ 402) from ⟨i_73, ((((cFr.rf : cFr [3, 4] [(2, 2)] q q).t a_20 (by decide) (by decide)) : cFr [3, 4] [(2, 2)] q q_15).t i_74 (by decide) (by decide)), by omega, by omega⟩) (show (402 - Int32.toInt (x3_18 + 2)).toNat < (402 - Int32.toInt x3_18).toNat by omega)
            · unfold zX9_row_s0_95
              try have t_81 : Int32.toInt (x1_16 + 1) = Int32.toInt x1_16 + 1 := ti_add rfl (by decide) (by omega) (by omega)
              try have t_82 : Int32.toInt (x3_18 + 2) = Int32.toInt x3_18 + 2 := ti_add rfl (by decide) (by omega) (by omega)
              exact hk_13 (q_71, (x1_16 + 1), x2_17, (x3_18 + 2)) (show (TC q_71) ∧ (cFr [3, 4] [(2, 2)] q q_71) ∧ (0 ≤ Int32.toInt (x3_18 + 2)) ∧ (Int32.toInt (x3_18 + 2) ≤ 402) from ⟨i_73, ((((cFr.rf : cFr [3, 4] [(2, 2)] q q).t a_20 (by decide) (by decide)) : cFr [3, 4] [(2, 2)] q q_15).t i_74 (by decide) (by decide)), by omega, by omega⟩) (show (402 - Int32.toInt (x3_18 + 2)).toNat < (402 - Int32.toInt x3_18).toNat by omega)
    · exact (show (TC q) ∧ (cFr [3, 4] [(2, 2)] q q) ∧ (0 ≤ (0 : Int)) ∧ ((0 : Int) ≤ 402) from ⟨hT, cFr.rf, by omega, by omega⟩)
    · show (402 - (0 : Int)).toNat < 1000000000000
      omega
end
section
set_option maxHeartbeats 4000000 in
set_option maxRecDepth 100000 in
theorem ok_X7_beginClause_s25 (q : dK) (p1 : Int32) (hT : TC q) : dOk (zX7_beginClause_s25 q p1) (fun (o : dK) => (TC o) ∧ (cFr [26, 27, 28, 29, 30] [(25, 6)] q o)) := by
  unfold zX7_beginClause_s25
  have f_1 : 0 ≤ Int32.toInt (q.1 25 6) ∧ Int32.toInt (q.1 25 6) ≤ 12 := rg_25_6 hT
  refine dOk_le (A := 12) (B := Int32.toInt (q.1 25 6)) (by decide) rfl (fun c_2 => ?_) (fun c_3 => ?_)
  · unfold zX7_beginClause_s25_81
    exact dOk_some (show (TC q) ∧ (cFr [26, 27, 28, 29, 30] [(25, 6)] q q) from ⟨hT, (cFr.rf (q := q))⟩)
  · refine dOk_G (dg_ok (show 0 ≤ Int32.toInt (q.1 25 6) by omega) (show Int32.toInt (q.1 25 6) < ((12 : Nat) : Int) by omega)) ?_
    have n_4 : ((Int32.toNatClampNeg (q.1 25 6) : Nat) : Int) = Int32.toInt (q.1 25 6) := cl_eq (by omega)
    refine dOk_L (fun q_5 eq_5 => ?_)
    have hTq_5 : TC q_5 := by rw [eq_5]; exact sa_26 hT
    have hFq_5 : cFr [26, 27, 28, 29, 30] [(25, 6)] q q_5 := by rw [eq_5]; exact (cFr.rf (q := q)).i (by decide)
    have f_6 : 0 ≤ Int32.toInt (q_5.1 25 6) ∧ Int32.toInt (q_5.1 25 6) ≤ 12 := rg_25_6 hTq_5
    try have w_7 : Int32.toInt (q_5.1 25 6) = Int32.toInt (q.1 25 6) := by rw [eq_5, cui_o (by decide)]
    refine dOk_G (dg_ok (show 0 ≤ Int32.toInt (q_5.1 25 6) by omega) (show Int32.toInt (q_5.1 25 6) < ((12 : Nat) : Int) by omega)) ?_
    have n_8 : ((Int32.toNatClampNeg (q_5.1 25 6) : Nat) : Int) = Int32.toInt (q_5.1 25 6) := cl_eq (by omega)
    refine dOk_L (fun q_9 eq_9 => ?_)
    have hTq_9 : TC q_9 := by rw [eq_9]; exact sa_27 hTq_5
    have hFq_9 : cFr [26, 27, 28, 29, 30] [(25, 6)] q q_9 := by rw [eq_9]; exact hFq_5.i (by decide)
    have f_10 : 0 ≤ Int32.toInt (q_9.1 25 6) ∧ Int32.toInt (q_9.1 25 6) ≤ 12 := rg_25_6 hTq_9
    try have w_11 : Int32.toInt (q_9.1 25 6) = Int32.toInt (q_5.1 25 6) := by rw [eq_9, cui_o (by decide)]
    refine dOk_G (dg_ok (show 0 ≤ Int32.toInt (q_9.1 25 6) by omega) (show Int32.toInt (q_9.1 25 6) < ((12 : Nat) : Int) by omega)) ?_
    have n_12 : ((Int32.toNatClampNeg (q_9.1 25 6) : Nat) : Int) = Int32.toInt (q_9.1 25 6) := cl_eq (by omega)
    refine dOk_L (fun q_13 eq_13 => ?_)
    have f_14 : 0 ≤ Int32.toInt (q_9.1 25 7) ∧ Int32.toInt (q_9.1 25 7) ≤ 400 := rg_25_7 hTq_9
    have f_15 : 0 ≤ Int32.toInt (q_5.1 25 7) ∧ Int32.toInt (q_5.1 25 7) ≤ 400 := rg_25_7 hTq_5
    have f_16 : 0 ≤ Int32.toInt (q.1 25 7) ∧ Int32.toInt (q.1 25 7) ≤ 400 := rg_25_7 hT
    try have w_17 : Int32.toInt (q_5.1 25 7) = Int32.toInt (q.1 25 7) := by rw [eq_5, cui_o (by decide)]
    try have w_18 : Int32.toInt (q_9.1 25 7) = Int32.toInt (q_5.1 25 7) := by rw [eq_9, cui_o (by decide)]
    have hTq_13 : TC q_13 := by rw [eq_13]; exact st_28 hTq_9 (show (0 : Int) ≤ Int32.toInt (q_9.1 25 7) by omega) (show Int32.toInt (q_9.1 25 7) ≤ (400 : Int) by omega)
    have hFq_13 : cFr [26, 27, 28, 29, 30] [(25, 6)] q q_13 := by rw [eq_13]; exact hFq_9.i (by decide)
    have f_19 : 0 ≤ Int32.toInt (q_13.1 25 6) ∧ Int32.toInt (q_13.1 25 6) ≤ 12 := rg_25_6 hTq_13
    try have w_20 : Int32.toInt (q_13.1 25 6) = Int32.toInt (q_9.1 25 6) := by rw [eq_13, cui_o (by decide)]
    refine dOk_G (dg_ok (show 0 ≤ Int32.toInt (q_13.1 25 6) by omega) (show Int32.toInt (q_13.1 25 6) < ((12 : Nat) : Int) by omega)) ?_
    have n_21 : ((Int32.toNatClampNeg (q_13.1 25 6) : Nat) : Int) = Int32.toInt (q_13.1 25 6) := cl_eq (by omega)
    refine dOk_L (fun q_22 eq_22 => ?_)
    have f_23 : 0 ≤ Int32.toInt (q_13.1 25 7) ∧ Int32.toInt (q_13.1 25 7) ≤ 400 := rg_25_7 hTq_13
    try have w_24 : Int32.toInt (q_13.1 25 7) = Int32.toInt (q_9.1 25 7) := by rw [eq_13, cui_o (by decide)]
    have hTq_22 : TC q_22 := by rw [eq_22]; exact st_29 hTq_13 (show (0 : Int) ≤ Int32.toInt (q_13.1 25 7) by omega) (show Int32.toInt (q_13.1 25 7) ≤ (400 : Int) by omega)
    have hFq_22 : cFr [26, 27, 28, 29, 30] [(25, 6)] q q_22 := by rw [eq_22]; exact hFq_13.i (by decide)
    have f_25 : 0 ≤ Int32.toInt (q_22.1 25 6) ∧ Int32.toInt (q_22.1 25 6) ≤ 12 := rg_25_6 hTq_22
    try have w_26 : Int32.toInt (q_22.1 25 6) = Int32.toInt (q_13.1 25 6) := by rw [eq_22, cui_o (by decide)]
    refine dOk_G (dg_ok (show 0 ≤ Int32.toInt (q_22.1 25 6) by omega) (show Int32.toInt (q_22.1 25 6) < ((12 : Nat) : Int) by omega)) ?_
    have n_27 : ((Int32.toNatClampNeg (q_22.1 25 6) : Nat) : Int) = Int32.toInt (q_22.1 25 6) := cl_eq (by omega)
    refine dOk_L (fun q_28 eq_28 => ?_)
    have f_29 : 0 ≤ Int32.toInt (q_22.1 25 7) ∧ Int32.toInt (q_22.1 25 7) ≤ 400 := rg_25_7 hTq_22
    try have w_30 : Int32.toInt (q_22.1 25 7) = Int32.toInt (q_13.1 25 7) := by rw [eq_22, cui_o (by decide)]
    have hTq_28 : TC q_28 := by rw [eq_28]; exact st_30 hTq_22 (show (0 : Int) ≤ Int32.toInt (q_22.1 25 7) by omega) (show Int32.toInt (q_22.1 25 7) ≤ (400 : Int) by omega)
    have hFq_28 : cFr [26, 27, 28, 29, 30] [(25, 6)] q q_28 := by rw [eq_28]; exact hFq_22.i (by decide)
    refine dOk_L (fun q_31 eq_31 => ?_)
    have f_32 : 0 ≤ Int32.toInt (q_28.1 25 6) ∧ Int32.toInt (q_28.1 25 6) ≤ 12 := rg_25_6 hTq_28
    try have w_33 : Int32.toInt (q_28.1 25 6) = Int32.toInt (q_22.1 25 6) := by rw [eq_28, cui_o (by decide)]
    try have t_34 : Int32.toInt (q_28.1 25 6 + 1) = Int32.toInt (q_28.1 25 6) + 1 := ti_add rfl (by decide) (by omega) (by omega)
    have hTq_31 : TC q_31 := by rw [eq_31]; exact st_25_6 hTq_28 (show (0 : Int) ≤ Int32.toInt (q_28.1 25 6 + 1) by omega) (show Int32.toInt (q_28.1 25 6 + 1) ≤ (12 : Int) by omega)
    have hFq_31 : cFr [26, 27, 28, 29, 30] [(25, 6)] q q_31 := by rw [eq_31]; exact hFq_28.f (by decide)
    unfold zX7_beginClause_s25_81
    exact dOk_some (show (TC q_31) ∧ (cFr [26, 27, 28, 29, 30] [(25, 6)] q q_31) from ⟨hTq_31, hFq_31⟩)

set_option maxHeartbeats 4000000 in
set_option maxRecDepth 100000 in
theorem ok_X7_endSum_s25 (q : dK) (hT : TC q) : dOk (zX7_endSum_s25 q) (fun (o : dK) => (TC o) ∧ (cFr [29, 30] [] q o)) := by
  unfold zX7_endSum_s25
  have f_1 : 0 ≤ Int32.toInt (q.1 25 6) ∧ Int32.toInt (q.1 25 6) ≤ 12 := rg_25_6 hT
  refine dOk_le (A := Int32.toInt (q.1 25 6)) (B := 0) rfl (by decide) (fun c_2 => ?_) (fun c_3 => ?_)
  · unfold zX7_endSum_s25_37
    exact dOk_some (show (TC q) ∧ (cFr [29, 30] [] q q) from ⟨hT, (cFr.rf (q := q))⟩)
  · try have t_4 : Int32.toInt (q.1 25 6 - 1) = Int32.toInt (q.1 25 6) - 1 := ti_sub rfl (by decide) (by omega) (by omega)
    refine dOk_G (dg_ok (show 0 ≤ Int32.toInt (q.1 25 6 - 1) by omega) (show Int32.toInt (q.1 25 6 - 1) < ((12 : Nat) : Int) by omega)) ?_
    have n_5 : ((Int32.toNatClampNeg (q.1 25 6 - 1) : Nat) : Int) = Int32.toInt (q.1 25 6 - 1) := cl_eq (by omega)
    refine dOk_L (fun q_6 eq_6 => ?_)
    have f_7 : 0 ≤ Int32.toInt (q.1 25 7) ∧ Int32.toInt (q.1 25 7) ≤ 400 := rg_25_7 hT
    have hTq_6 : TC q_6 := by rw [eq_6]; exact st_29 hT (show (0 : Int) ≤ Int32.toInt (q.1 25 7) by omega) (show Int32.toInt (q.1 25 7) ≤ (400 : Int) by omega)
    have hFq_6 : cFr [29, 30] [] q q_6 := by rw [eq_6]; exact (cFr.rf (q := q)).i (by decide)
    have f_8 : 0 ≤ Int32.toInt (q_6.1 25 6) ∧ Int32.toInt (q_6.1 25 6) ≤ 12 := rg_25_6 hTq_6
    try have w_9 : Int32.toInt (q_6.1 25 6) = Int32.toInt (q.1 25 6) := by rw [eq_6, cui_o (by decide)]
    try have t_10 : Int32.toInt (q_6.1 25 6 - 1) = Int32.toInt (q_6.1 25 6) - 1 := ti_sub rfl (by decide) (by omega) (by omega)
    refine dOk_G (dg_ok (show 0 ≤ Int32.toInt (q_6.1 25 6 - 1) by omega) (show Int32.toInt (q_6.1 25 6 - 1) < ((12 : Nat) : Int) by omega)) ?_
    have n_11 : ((Int32.toNatClampNeg (q_6.1 25 6 - 1) : Nat) : Int) = Int32.toInt (q_6.1 25 6 - 1) := cl_eq (by omega)
    refine dOk_L (fun q_12 eq_12 => ?_)
    have f_13 : 0 ≤ Int32.toInt (q_6.1 25 7) ∧ Int32.toInt (q_6.1 25 7) ≤ 400 := rg_25_7 hTq_6
    try have w_14 : Int32.toInt (q_6.1 25 7) = Int32.toInt (q.1 25 7) := by rw [eq_6, cui_o (by decide)]
    have hTq_12 : TC q_12 := by rw [eq_12]; exact st_30 hTq_6 (show (0 : Int) ≤ Int32.toInt (q_6.1 25 7) by omega) (show Int32.toInt (q_6.1 25 7) ≤ (400 : Int) by omega)
    have hFq_12 : cFr [29, 30] [] q q_12 := by rw [eq_12]; exact hFq_6.i (by decide)
    unfold zX7_endSum_s25_37
    exact dOk_some (show (TC q_12) ∧ (cFr [29, 30] [] q q_12) from ⟨hTq_12, hFq_12⟩)

set_option maxHeartbeats 4000000 in
set_option maxRecDepth 100000 in
theorem ok_X7_endTest_s25 (q : dK) (hT : TC q) : dOk (zX7_endTest_s25 q) (fun (o : dK) => (TC o) ∧ (cFr [30] [] q o)) := by
  unfold zX7_endTest_s25
  have f_1 : 0 ≤ Int32.toInt (q.1 25 6) ∧ Int32.toInt (q.1 25 6) ≤ 12 := rg_25_6 hT
  refine dOk_le (A := Int32.toInt (q.1 25 6)) (B := 0) rfl (by decide) (fun c_2 => ?_) (fun c_3 => ?_)
  · unfold zX7_endTest_s25_22
    exact dOk_some (show (TC q) ∧ (cFr [30] [] q q) from ⟨hT, (cFr.rf (q := q))⟩)
  · try have t_4 : Int32.toInt (q.1 25 6 - 1) = Int32.toInt (q.1 25 6) - 1 := ti_sub rfl (by decide) (by omega) (by omega)
    refine dOk_G (dg_ok (show 0 ≤ Int32.toInt (q.1 25 6 - 1) by omega) (show Int32.toInt (q.1 25 6 - 1) < ((12 : Nat) : Int) by omega)) ?_
    have n_5 : ((Int32.toNatClampNeg (q.1 25 6 - 1) : Nat) : Int) = Int32.toInt (q.1 25 6 - 1) := cl_eq (by omega)
    refine dOk_L (fun q_6 eq_6 => ?_)
    have f_7 : 0 ≤ Int32.toInt (q.1 25 7) ∧ Int32.toInt (q.1 25 7) ≤ 400 := rg_25_7 hT
    have hTq_6 : TC q_6 := by rw [eq_6]; exact st_30 hT (show (0 : Int) ≤ Int32.toInt (q.1 25 7) by omega) (show Int32.toInt (q.1 25 7) ≤ (400 : Int) by omega)
    have hFq_6 : cFr [30] [] q q_6 := by rw [eq_6]; exact (cFr.rf (q := q)).i (by decide)
    unfold zX7_endTest_s25_22
    exact dOk_some (show (TC q_6) ∧ (cFr [30] [] q q_6) from ⟨hTq_6, hFq_6⟩)

set_option maxHeartbeats 4000000 in
set_option maxRecDepth 100000 in
theorem ok_X7_setTimes_s25 (q : dK) (p1 : Int32) (hT : TC q) : dOk (zX7_setTimes_s25 q p1) (fun (o : dK) => (TC o) ∧ (cFr [27] [] q o)) := by
  unfold zX7_setTimes_s25
  have f_1 : 0 ≤ Int32.toInt (q.1 25 6) ∧ Int32.toInt (q.1 25 6) ≤ 12 := rg_25_6 hT
  refine dOk_le (A := Int32.toInt (q.1 25 6)) (B := 0) rfl (by decide) (fun c_2 => ?_) (fun c_3 => ?_)
  · unfold zX7_setTimes_s25_19
    exact dOk_some (show (TC q) ∧ (cFr [27] [] q q) from ⟨hT, (cFr.rf (q := q))⟩)
  · try have t_4 : Int32.toInt (q.1 25 6 - 1) = Int32.toInt (q.1 25 6) - 1 := ti_sub rfl (by decide) (by omega) (by omega)
    refine dOk_G (dg_ok (show 0 ≤ Int32.toInt (q.1 25 6 - 1) by omega) (show Int32.toInt (q.1 25 6 - 1) < ((12 : Nat) : Int) by omega)) ?_
    have n_5 : ((Int32.toNatClampNeg (q.1 25 6 - 1) : Nat) : Int) = Int32.toInt (q.1 25 6 - 1) := cl_eq (by omega)
    refine dOk_L (fun q_6 eq_6 => ?_)
    have hTq_6 : TC q_6 := by rw [eq_6]; exact sa_27 hT
    have hFq_6 : cFr [27] [] q q_6 := by rw [eq_6]; exact (cFr.rf (q := q)).i (by decide)
    unfold zX7_setTimes_s25_19
    exact dOk_some (show (TC q_6) ∧ (cFr [27] [] q q_6) from ⟨hTq_6, hFq_6⟩)

set_option maxHeartbeats 4000000 in
set_option maxRecDepth 100000 in
theorem ok_X9_seen_s0 (q : dK) (p1 : Int32) (p2 : Int32) (hT : TC q) : dOk (zX9_seen_s0 q p1 p2) (fun (o : Int32 × dK) => (TC o.2) ∧ (cFr [5, 6, 48] [(0, 18), (1, 6)] q o.2) ∧ ((0 ≤ Int32.toInt p1 ∧ Int32.toInt p1 ≤ 5 ∧ 0 ≤ Int32.toInt p2 ∧ Int32.toInt p2 ≤ 5 ∧ Int32.toInt (q.1 1 6) < 6 ∧ Int32.toInt (o.2.1 1 6) = Int32.toInt (q.1 1 6) + 1 ∧ Int32.toInt o.1 = Int32.toInt (q.1 1 6) + 1) ∨ (0 ≤ Int32.toInt p1 ∧ Int32.toInt p1 ≤ 5 ∧ 0 ≤ Int32.toInt p2 ∧ Int32.toInt p2 ≤ 5 ∧ 6 ≤ Int32.toInt (q.1 1 6) ∧ Int32.toInt (o.2.1 1 6) = Int32.toInt (q.1 1 6) ∧ Int32.toInt o.1 = -5) ∨ ((Int32.toInt p1 < 0 ∨ 5 < Int32.toInt p1 ∨ Int32.toInt p2 < 0 ∨ 5 < Int32.toInt p2) ∧ Int32.toInt (o.2.1 1 6) = Int32.toInt (q.1 1 6) ∧ Int32.toInt o.1 = -1))) := by
  unfold zX9_seen_s0
  refine dOk_lt (A := Int32.toInt p1) (B := 0) rfl (by decide) (fun c_1 => ?_) (fun c_2 => ?_)
  · unfold zX9_seen_s0_17
    refine dOk_B (ok_X9_refuse_s0 q (-1) hT) (fun r_3 q_4 h_5 => ?_)
    replace h_5 : (TC q_4) ∧ (cFr [48] [(0, 18)] q q_4) ∧ (Int32.toInt r_3 = (-1 : Int)) := h_5
    obtain ⟨i_6, i_7, i_8⟩ := h_5
    have hFq_4 : cFr [5, 6, 48] [(0, 18), (1, 6)] q q_4 := (cFr.rf (q := q)).t i_7 (by decide) (by decide)
    have f_9 : 0 ≤ Int32.toInt (q.1 1 6) ∧ Int32.toInt (q.1 1 6) ≤ 6 := rg_1_6 hT
    have f_10 : 0 ≤ Int32.toInt (q_4.1 1 6) ∧ Int32.toInt (q_4.1 1 6) ≤ 6 := rg_1_6 i_6
    have w_11 : Int32.toInt (q_4.1 1 6) = Int32.toInt (q.1 1 6) := by rw [i_7.1 1 6 (by decide) (by decide)]
    exact dOk_some (show (TC q_4) ∧ (cFr [5, 6, 48] [(0, 18), (1, 6)] q q_4) ∧ ((0 ≤ Int32.toInt p1 ∧ Int32.toInt p1 ≤ 5 ∧ 0 ≤ Int32.toInt p2 ∧ Int32.toInt p2 ≤ 5 ∧ Int32.toInt (q.1 1 6) < 6 ∧ Int32.toInt (q_4.1 1 6) = Int32.toInt (q.1 1 6) + 1 ∧ Int32.toInt r_3 = Int32.toInt (q.1 1 6) + 1) ∨ (0 ≤ Int32.toInt p1 ∧ Int32.toInt p1 ≤ 5 ∧ 0 ≤ Int32.toInt p2 ∧ Int32.toInt p2 ≤ 5 ∧ 6 ≤ Int32.toInt (q.1 1 6) ∧ Int32.toInt (q_4.1 1 6) = Int32.toInt (q.1 1 6) ∧ Int32.toInt r_3 = -5) ∨ ((Int32.toInt p1 < 0 ∨ 5 < Int32.toInt p1 ∨ Int32.toInt p2 < 0 ∨ 5 < Int32.toInt p2) ∧ Int32.toInt (q_4.1 1 6) = Int32.toInt (q.1 1 6) ∧ Int32.toInt r_3 = -1)) from ⟨i_6, hFq_4, by omega⟩)
  · refine dOk_le (A := 6) (B := Int32.toInt p1) (by decide) rfl (fun c_12 => ?_) (fun c_13 => ?_)
    · unfold zX9_seen_s0_17
      refine dOk_B (ok_X9_refuse_s0 q (-1) hT) (fun r_14 q_15 h_16 => ?_)
      replace h_16 : (TC q_15) ∧ (cFr [48] [(0, 18)] q q_15) ∧ (Int32.toInt r_14 = (-1 : Int)) := h_16
      obtain ⟨i_17, i_18, i_19⟩ := h_16
      have hFq_15 : cFr [5, 6, 48] [(0, 18), (1, 6)] q q_15 := (cFr.rf (q := q)).t i_18 (by decide) (by decide)
      have f_20 : 0 ≤ Int32.toInt (q.1 1 6) ∧ Int32.toInt (q.1 1 6) ≤ 6 := rg_1_6 hT
      have f_21 : 0 ≤ Int32.toInt (q_15.1 1 6) ∧ Int32.toInt (q_15.1 1 6) ≤ 6 := rg_1_6 i_17
      have w_22 : Int32.toInt (q_15.1 1 6) = Int32.toInt (q.1 1 6) := by rw [i_18.1 1 6 (by decide) (by decide)]
      exact dOk_some (show (TC q_15) ∧ (cFr [5, 6, 48] [(0, 18), (1, 6)] q q_15) ∧ ((0 ≤ Int32.toInt p1 ∧ Int32.toInt p1 ≤ 5 ∧ 0 ≤ Int32.toInt p2 ∧ Int32.toInt p2 ≤ 5 ∧ Int32.toInt (q.1 1 6) < 6 ∧ Int32.toInt (q_15.1 1 6) = Int32.toInt (q.1 1 6) + 1 ∧ Int32.toInt r_14 = Int32.toInt (q.1 1 6) + 1) ∨ (0 ≤ Int32.toInt p1 ∧ Int32.toInt p1 ≤ 5 ∧ 0 ≤ Int32.toInt p2 ∧ Int32.toInt p2 ≤ 5 ∧ 6 ≤ Int32.toInt (q.1 1 6) ∧ Int32.toInt (q_15.1 1 6) = Int32.toInt (q.1 1 6) ∧ Int32.toInt r_14 = -5) ∨ ((Int32.toInt p1 < 0 ∨ 5 < Int32.toInt p1 ∨ Int32.toInt p2 < 0 ∨ 5 < Int32.toInt p2) ∧ Int32.toInt (q_15.1 1 6) = Int32.toInt (q.1 1 6) ∧ Int32.toInt r_14 = -1)) from ⟨i_17, hFq_15, by omega⟩)
    · refine dOk_V (ok_X9_isRank p2) (fun r_23 h_24 => ?_)
      replace h_24 : ((Int32.toInt r_23 = 1 ∧ 0 ≤ Int32.toInt p2 ∧ Int32.toInt p2 ≤ 5) ∨ (Int32.toInt r_23 = 0 ∧ (Int32.toInt p2 < 0 ∨ 5 < Int32.toInt p2))) := h_24
      have i_25 := h_24
      refine dOk_eq (A := Int32.toInt r_23) (B := 0) rfl (by decide) (fun c_26z c_26 => ?_) (fun c_27z c_27 => ?_)
      · unfold zX9_seen_s0_17
        refine dOk_B (ok_X9_refuse_s0 q (-1) hT) (fun r_29 q_30 h_31 => ?_)
        replace h_31 : (TC q_30) ∧ (cFr [48] [(0, 18)] q q_30) ∧ (Int32.toInt r_29 = (-1 : Int)) := h_31
        obtain ⟨i_32, i_33, i_34⟩ := h_31
        have hFq_30 : cFr [5, 6, 48] [(0, 18), (1, 6)] q q_30 := (cFr.rf (q := q)).t i_33 (by decide) (by decide)
        have f_35 : 0 ≤ Int32.toInt (q.1 1 6) ∧ Int32.toInt (q.1 1 6) ≤ 6 := rg_1_6 hT
        have f_36 : 0 ≤ Int32.toInt (q_30.1 1 6) ∧ Int32.toInt (q_30.1 1 6) ≤ 6 := rg_1_6 i_32
        have w_37 : Int32.toInt (q_30.1 1 6) = Int32.toInt (q.1 1 6) := by rw [i_33.1 1 6 (by decide) (by decide)]
        exact dOk_some (show (TC q_30) ∧ (cFr [5, 6, 48] [(0, 18), (1, 6)] q q_30) ∧ ((0 ≤ Int32.toInt p1 ∧ Int32.toInt p1 ≤ 5 ∧ 0 ≤ Int32.toInt p2 ∧ Int32.toInt p2 ≤ 5 ∧ Int32.toInt (q.1 1 6) < 6 ∧ Int32.toInt (q_30.1 1 6) = Int32.toInt (q.1 1 6) + 1 ∧ Int32.toInt r_29 = Int32.toInt (q.1 1 6) + 1) ∨ (0 ≤ Int32.toInt p1 ∧ Int32.toInt p1 ≤ 5 ∧ 0 ≤ Int32.toInt p2 ∧ Int32.toInt p2 ≤ 5 ∧ 6 ≤ Int32.toInt (q.1 1 6) ∧ Int32.toInt (q_30.1 1 6) = Int32.toInt (q.1 1 6) ∧ Int32.toInt r_29 = -5) ∨ ((Int32.toInt p1 < 0 ∨ 5 < Int32.toInt p1 ∨ Int32.toInt p2 < 0 ∨ 5 < Int32.toInt p2) ∧ Int32.toInt (q_30.1 1 6) = Int32.toInt (q.1 1 6) ∧ Int32.toInt r_29 = -1)) from ⟨i_32, hFq_30, by omega⟩)
      · have f_38 : 0 ≤ Int32.toInt (q.1 1 6) ∧ Int32.toInt (q.1 1 6) ≤ 6 := rg_1_6 hT
        refine dOk_lt (A := Int32.toInt (q.1 1 6)) (B := 6) rfl (by decide) (fun c_39 => ?_) (fun c_40 => ?_)
        · refine dOk_G (dg_ok (show 0 ≤ Int32.toInt (q.1 1 6) by omega) (show Int32.toInt (q.1 1 6) < ((6 : Nat) : Int) by omega)) ?_
          have n_41 : ((Int32.toNatClampNeg (q.1 1 6) : Nat) : Int) = Int32.toInt (q.1 1 6) := cl_eq (by omega)
          refine dOk_L (fun q_42 eq_42 => ?_)
          have hTq_42 : TC q_42 := by rw [eq_42]; exact sa_5 hT
          have hFq_42 : cFr [5, 6, 48] [(0, 18), (1, 6)] q q_42 := by rw [eq_42]; exact (cFr.rf (q := q)).i (by decide)
          have f_43 : 0 ≤ Int32.toInt (q_42.1 1 6) ∧ Int32.toInt (q_42.1 1 6) ≤ 6 := rg_1_6 hTq_42
          try have w_44 : Int32.toInt (q_42.1 1 6) = Int32.toInt (q.1 1 6) := by rw [eq_42, cui_o (by decide)]
          refine dOk_G (dg_ok (show 0 ≤ Int32.toInt (q_42.1 1 6) by omega) (show Int32.toInt (q_42.1 1 6) < ((6 : Nat) : Int) by omega)) ?_
          have n_45 : ((Int32.toNatClampNeg (q_42.1 1 6) : Nat) : Int) = Int32.toInt (q_42.1 1 6) := cl_eq (by omega)
          refine dOk_L (fun q_46 eq_46 => ?_)
          have hTq_46 : TC q_46 := by rw [eq_46]; exact sa_6 hTq_42
          have hFq_46 : cFr [5, 6, 48] [(0, 18), (1, 6)] q q_46 := by rw [eq_46]; exact hFq_42.i (by decide)
          refine dOk_L (fun q_47 eq_47 => ?_)
          have f_48 : 0 ≤ Int32.toInt (q_46.1 1 6) ∧ Int32.toInt (q_46.1 1 6) ≤ 6 := rg_1_6 hTq_46
          try have w_49 : Int32.toInt (q_46.1 1 6) = Int32.toInt (q_42.1 1 6) := by rw [eq_46, cui_o (by decide)]
          try have t_50 : Int32.toInt (q_46.1 1 6 + 1) = Int32.toInt (q_46.1 1 6) + 1 := ti_add rfl (by decide) (by omega) (by omega)
          have hTq_47 : TC q_47 := by rw [eq_47]; exact st_1_6 hTq_46 (show (0 : Int) ≤ Int32.toInt (q_46.1 1 6 + 1) by omega) (show Int32.toInt (q_46.1 1 6 + 1) ≤ (6 : Int) by omega)
          have hFq_47 : cFr [5, 6, 48] [(0, 18), (1, 6)] q q_47 := by rw [eq_47]; exact hFq_46.f (by decide)
          have f_51 : 0 ≤ Int32.toInt (q_47.1 1 6) ∧ Int32.toInt (q_47.1 1 6) ≤ 6 := rg_1_6 hTq_47
          have w_52 : Int32.toInt (q_47.1 1 6) = Int32.toInt (q_46.1 1 6 + 1) := by rw [eq_47, cui_e]
          refine dOk_B (ok_X9_accept_s0 q_47 (q_47.1 1 6) hTq_47) (fun r_53 q_54 h_55 => ?_)
          replace h_55 : (TC q_54) ∧ (cFr [] [(0, 18)] q_47 q_54) ∧ (Int32.toInt r_53 = Int32.toInt (q_47.1 1 6)) := h_55
          obtain ⟨i_56, i_57, i_58⟩ := h_55
          have hFq_54 : cFr [5, 6, 48] [(0, 18), (1, 6)] q q_54 := hFq_47.t i_57 (by decide) (by decide)
          have f_59 : 0 ≤ Int32.toInt (q_54.1 1 6) ∧ Int32.toInt (q_54.1 1 6) ≤ 6 := rg_1_6 i_56
          have w_60 : Int32.toInt (q_54.1 1 6) = Int32.toInt (q_47.1 1 6) := by rw [i_57.1 1 6 (by decide) (by decide)]
          exact dOk_some (show (TC q_54) ∧ (cFr [5, 6, 48] [(0, 18), (1, 6)] q q_54) ∧ ((0 ≤ Int32.toInt p1 ∧ Int32.toInt p1 ≤ 5 ∧ 0 ≤ Int32.toInt p2 ∧ Int32.toInt p2 ≤ 5 ∧ Int32.toInt (q.1 1 6) < 6 ∧ Int32.toInt (q_54.1 1 6) = Int32.toInt (q.1 1 6) + 1 ∧ Int32.toInt r_53 = Int32.toInt (q.1 1 6) + 1) ∨ (0 ≤ Int32.toInt p1 ∧ Int32.toInt p1 ≤ 5 ∧ 0 ≤ Int32.toInt p2 ∧ Int32.toInt p2 ≤ 5 ∧ 6 ≤ Int32.toInt (q.1 1 6) ∧ Int32.toInt (q_54.1 1 6) = Int32.toInt (q.1 1 6) ∧ Int32.toInt r_53 = -5) ∨ ((Int32.toInt p1 < 0 ∨ 5 < Int32.toInt p1 ∨ Int32.toInt p2 < 0 ∨ 5 < Int32.toInt p2) ∧ Int32.toInt (q_54.1 1 6) = Int32.toInt (q.1 1 6) ∧ Int32.toInt r_53 = -1)) from ⟨i_56, hFq_54, by omega⟩)
        · refine dOk_B (ok_X9_refuse_s0 q (-5) hT) (fun r_61 q_62 h_63 => ?_)
          replace h_63 : (TC q_62) ∧ (cFr [48] [(0, 18)] q q_62) ∧ (Int32.toInt r_61 = (-5 : Int)) := h_63
          obtain ⟨i_64, i_65, i_66⟩ := h_63
          have hFq_62 : cFr [5, 6, 48] [(0, 18), (1, 6)] q q_62 := (cFr.rf (q := q)).t i_65 (by decide) (by decide)
          have f_67 : 0 ≤ Int32.toInt (q_62.1 1 6) ∧ Int32.toInt (q_62.1 1 6) ≤ 6 := rg_1_6 i_64
          have w_68 : Int32.toInt (q_62.1 1 6) = Int32.toInt (q.1 1 6) := by rw [i_65.1 1 6 (by decide) (by decide)]
          exact dOk_some (show (TC q_62) ∧ (cFr [5, 6, 48] [(0, 18), (1, 6)] q q_62) ∧ ((0 ≤ Int32.toInt p1 ∧ Int32.toInt p1 ≤ 5 ∧ 0 ≤ Int32.toInt p2 ∧ Int32.toInt p2 ≤ 5 ∧ Int32.toInt (q.1 1 6) < 6 ∧ Int32.toInt (q_62.1 1 6) = Int32.toInt (q.1 1 6) + 1 ∧ Int32.toInt r_61 = Int32.toInt (q.1 1 6) + 1) ∨ (0 ≤ Int32.toInt p1 ∧ Int32.toInt p1 ≤ 5 ∧ 0 ≤ Int32.toInt p2 ∧ Int32.toInt p2 ≤ 5 ∧ 6 ≤ Int32.toInt (q.1 1 6) ∧ Int32.toInt (q_62.1 1 6) = Int32.toInt (q.1 1 6) ∧ Int32.toInt r_61 = -5) ∨ ((Int32.toInt p1 < 0 ∨ 5 < Int32.toInt p1 ∨ Int32.toInt p2 < 0 ∨ 5 < Int32.toInt p2) ∧ Int32.toInt (q_62.1 1 6) = Int32.toInt (q.1 1 6) ∧ Int32.toInt r_61 = -1)) from ⟨i_64, hFq_62, by omega⟩)

set_option maxHeartbeats 4000000 in
set_option maxRecDepth 100000 in
theorem ok_X0_keep_s10 (q : dK) (p1 : Int32) (p2 : Int64) (hT : TC q) (hp0 : 0 ≤ Int64.toInt p2) : dOk (zX0_keep_s10 q p1 p2) (fun (o : dK) => (TC o) ∧ (cFr [12] [(10, 2)] q o)) := by
  unfold zX0_keep_s10
  have f_1 : 0 ≤ Int32.toInt (q.1 10 2) ∧ Int32.toInt (q.1 10 2) ≤ 16 := rg_10_2 hT
  refine dOk_lt (A := Int32.toInt (q.1 10 2)) (B := 16) rfl (by decide) (fun c_2 => ?_) (fun c_3 => ?_)
  · unfold zX0_keep_s10_45
    refine dOk_G (dg_ok (show 0 ≤ Int32.toInt (q.1 10 2) by omega) (show Int32.toInt (q.1 10 2) < ((16 : Nat) : Int) by omega)) ?_
    have n_4 : ((Int32.toNatClampNeg (q.1 10 2) : Nat) : Int) = Int32.toInt (q.1 10 2) := cl_eq (by omega)
    refine dOk_L (fun q_5 eq_5 => ?_)
    have hTq_5 : TC q_5 := by rw [eq_5]; exact tc_l hT (fun _ => by omega)
    have hFq_5 : cFr [12] [(10, 2)] q q_5 := by rw [eq_5]; exact (cFr.rf (q := q)).l
    have f_6 : 0 ≤ Int32.toInt (q_5.1 10 2) ∧ Int32.toInt (q_5.1 10 2) ≤ 16 := rg_10_2 hTq_5
    have w_7 : Int32.toInt (q_5.1 10 2) = Int32.toInt (q.1 10 2) := by rw [eq_5, cul_1]
    refine dOk_G (dg_ok (show 0 ≤ Int32.toInt (q_5.1 10 2) by omega) (show Int32.toInt (q_5.1 10 2) < ((16 : Nat) : Int) by omega)) ?_
    have n_8 : ((Int32.toNatClampNeg (q_5.1 10 2) : Nat) : Int) = Int32.toInt (q_5.1 10 2) := cl_eq (by omega)
    refine dOk_L (fun q_9 eq_9 => ?_)
    have hTq_9 : TC q_9 := by rw [eq_9]; exact sa_12 hTq_5
    have hFq_9 : cFr [12] [(10, 2)] q q_9 := by rw [eq_9]; exact hFq_5.i (by decide)
    refine dOk_L (fun q_10 eq_10 => ?_)
    have f_11 : 0 ≤ Int32.toInt (q_9.1 10 2) ∧ Int32.toInt (q_9.1 10 2) ≤ 16 := rg_10_2 hTq_9
    try have w_12 : Int32.toInt (q_9.1 10 2) = Int32.toInt (q_5.1 10 2) := by rw [eq_9, cui_o (by decide)]
    try have t_13 : Int32.toInt (q_9.1 10 2 + 1) = Int32.toInt (q_9.1 10 2) + 1 := ti_add rfl (by decide) (by omega) (by omega)
    have hTq_10 : TC q_10 := by rw [eq_10]; exact st_10_2 hTq_9 (show (0 : Int) ≤ Int32.toInt (q_9.1 10 2 + 1) by omega) (show Int32.toInt (q_9.1 10 2 + 1) ≤ (16 : Int) by omega)
    have hFq_10 : cFr [12] [(10, 2)] q q_10 := by rw [eq_10]; exact hFq_9.f (by decide)
    exact dOk_some (show (TC q_10) ∧ (cFr [12] [(10, 2)] q q_10) from ⟨hTq_10, hFq_10⟩)
  · refine dOk_L (fun q_14 eq_14 => ?_)
    have hTq_14 : TC q_14 := by rw [eq_14]; exact tc_ccl hT (by decide)
    have hFq_14 : cFr [12] [(10, 2)] q q_14 := by rw [eq_14]; exact (cFr.rf (q := q)).h
    refine dOk_L (fun q_15 eq_15 => ?_)
    have hTq_15 : TC q_15 := by rw [eq_15]; exact tc_cci hTq_14 (by decide)
    have hFq_15 : cFr [12] [(10, 2)] q q_15 := by rw [eq_15]; exact hFq_14.c (by decide)
    refine dOk_L (fun q_16 eq_16 => ?_)
    have hTq_16 : TC q_16 := by rw [eq_16]; exact st_10_2 hTq_15 (show (0 : Int) ≤ (15 : Int) by omega) (show (15 : Int) ≤ (16 : Int) by omega)
    have hFq_16 : cFr [12] [(10, 2)] q q_16 := by rw [eq_16]; exact hFq_15.f (by decide)
    unfold zX0_keep_s10_45
    have f_17 : 0 ≤ Int32.toInt (q_16.1 10 2) ∧ Int32.toInt (q_16.1 10 2) ≤ 16 := rg_10_2 hTq_16
    have w_18 : Int32.toInt (q_16.1 10 2) = (15 : Int) := by rw [eq_16, cui_e]; decide
    refine dOk_G (dg_ok (show 0 ≤ Int32.toInt (q_16.1 10 2) by omega) (show Int32.toInt (q_16.1 10 2) < ((16 : Nat) : Int) by omega)) ?_
    have n_19 : ((Int32.toNatClampNeg (q_16.1 10 2) : Nat) : Int) = Int32.toInt (q_16.1 10 2) := cl_eq (by omega)
    refine dOk_L (fun q_20 eq_20 => ?_)
    have hTq_20 : TC q_20 := by rw [eq_20]; exact tc_l hTq_16 (fun _ => by omega)
    have hFq_20 : cFr [12] [(10, 2)] q q_20 := by rw [eq_20]; exact hFq_16.l
    have f_21 : 0 ≤ Int32.toInt (q_20.1 10 2) ∧ Int32.toInt (q_20.1 10 2) ≤ 16 := rg_10_2 hTq_20
    have w_22 : Int32.toInt (q_20.1 10 2) = Int32.toInt (q_16.1 10 2) := by rw [eq_20, cul_1]
    refine dOk_G (dg_ok (show 0 ≤ Int32.toInt (q_20.1 10 2) by omega) (show Int32.toInt (q_20.1 10 2) < ((16 : Nat) : Int) by omega)) ?_
    have n_23 : ((Int32.toNatClampNeg (q_20.1 10 2) : Nat) : Int) = Int32.toInt (q_20.1 10 2) := cl_eq (by omega)
    refine dOk_L (fun q_24 eq_24 => ?_)
    have hTq_24 : TC q_24 := by rw [eq_24]; exact sa_12 hTq_20
    have hFq_24 : cFr [12] [(10, 2)] q q_24 := by rw [eq_24]; exact hFq_20.i (by decide)
    refine dOk_L (fun q_25 eq_25 => ?_)
    have f_26 : 0 ≤ Int32.toInt (q_24.1 10 2) ∧ Int32.toInt (q_24.1 10 2) ≤ 16 := rg_10_2 hTq_24
    try have w_27 : Int32.toInt (q_24.1 10 2) = Int32.toInt (q_20.1 10 2) := by rw [eq_24, cui_o (by decide)]
    try have t_28 : Int32.toInt (q_24.1 10 2 + 1) = Int32.toInt (q_24.1 10 2) + 1 := ti_add rfl (by decide) (by omega) (by omega)
    have hTq_25 : TC q_25 := by rw [eq_25]; exact st_10_2 hTq_24 (show (0 : Int) ≤ Int32.toInt (q_24.1 10 2 + 1) by omega) (show Int32.toInt (q_24.1 10 2 + 1) ≤ (16 : Int) by omega)
    have hFq_25 : cFr [12] [(10, 2)] q q_25 := by rw [eq_25]; exact hFq_24.f (by decide)
    exact dOk_some (show (TC q_25) ∧ (cFr [12] [(10, 2)] q q_25) from ⟨hTq_25, hFq_25⟩)

set_option maxHeartbeats 4000000 in
set_option maxRecDepth 100000 in
theorem ok_X0_mark_s10 (q : dK) (hT : TC q) : dOk (zX0_mark_s10 q) (fun (o : dK) => (TC o) ∧ (cFr [14] [(10, 5)] q o)) := by
  unfold zX0_mark_s10
  refine dOk_L (fun q_1 eq_1 => ?_)
  have hTq_1 : TC q_1 := by rw [eq_1]; exact tc_ccl hT (by decide)
  have hFq_1 : cFr [14] [(10, 5)] q q_1 := by rw [eq_1]; exact (cFr.rf (q := q)).h
  refine dOk_L (fun q_2 eq_2 => ?_)
  have hTq_2 : TC q_2 := by rw [eq_2]; exact tc_cci hTq_1 (by decide)
  have hFq_2 : cFr [14] [(10, 5)] q q_2 := by rw [eq_2]; exact hFq_1.c (by decide)
  refine dOk_L (fun q_3 eq_3 => ?_)
  have f_4 : 0 ≤ Int32.toInt (q_2.1 10 2) ∧ Int32.toInt (q_2.1 10 2) ≤ 16 := rg_10_2 hTq_2
  have f_5 : 0 ≤ Int32.toInt (q_1.1 10 2) ∧ Int32.toInt (q_1.1 10 2) ≤ 16 := rg_10_2 hTq_1
  have f_6 : 0 ≤ Int32.toInt (q.1 10 2) ∧ Int32.toInt (q.1 10 2) ≤ 16 := rg_10_2 hT
  have w_7 : Int32.toInt (q_1.1 10 2) = Int32.toInt (q.1 10 2) := by rw [eq_1]; rfl
  have w_8 : Int32.toInt (q_2.1 10 2) = Int32.toInt (q_1.1 10 2) := by rw [eq_2]; rfl
  have hTq_3 : TC q_3 := by rw [eq_3]; exact st_10_5 hTq_2 (show (0 : Int) ≤ Int32.toInt (q_2.1 10 2) by omega) (show Int32.toInt (q_2.1 10 2) ≤ (16 : Int) by omega)
  have hFq_3 : cFr [14] [(10, 5)] q q_3 := by rw [eq_3]; exact hFq_2.f (by decide)
  exact dOk_some (show (TC q_3) ∧ (cFr [14] [(10, 5)] q q_3) from ⟨hTq_3, hFq_3⟩)

set_option maxHeartbeats 4000000 in
set_option maxRecDepth 100000 in
theorem ok_X0_backToMark_s10 (q : dK) (hT : TC q) : dOk (zX0_backToMark_s10 q) (fun (o : dK) => (TC o) ∧ (cFr [12] [(10, 2)] q o)) := by
  unfold zX0_backToMark_s10
  refine dOk_L (fun q_1 eq_1 => ?_)
  have hTq_1 : TC q_1 := by rw [eq_1]; exact tc_ccl hT (by decide)
  have hFq_1 : cFr [12] [(10, 2)] q q_1 := by rw [eq_1]; exact (cFr.rf (q := q)).h
  refine dOk_L (fun q_2 eq_2 => ?_)
  have hTq_2 : TC q_2 := by rw [eq_2]; exact tc_cci hTq_1 (by decide)
  have hFq_2 : cFr [12] [(10, 2)] q q_2 := by rw [eq_2]; exact hFq_1.c (by decide)
  refine dOk_L (fun q_3 eq_3 => ?_)
  have f_4 : 0 ≤ Int32.toInt (q_2.1 10 5) ∧ Int32.toInt (q_2.1 10 5) ≤ 16 := rg_10_5 hTq_2
  have f_5 : 0 ≤ Int32.toInt (q_1.1 10 5) ∧ Int32.toInt (q_1.1 10 5) ≤ 16 := rg_10_5 hTq_1
  have f_6 : 0 ≤ Int32.toInt (q.1 10 5) ∧ Int32.toInt (q.1 10 5) ≤ 16 := rg_10_5 hT
  have w_7 : Int32.toInt (q_1.1 10 5) = Int32.toInt (q.1 10 5) := by rw [eq_1]; rfl
  have w_8 : Int32.toInt (q_2.1 10 5) = Int32.toInt (q_1.1 10 5) := by rw [eq_2]; rfl
  have hTq_3 : TC q_3 := by rw [eq_3]; exact st_10_2 hTq_2 (show (0 : Int) ≤ Int32.toInt (q_2.1 10 5) by omega) (show Int32.toInt (q_2.1 10 5) ≤ (16 : Int) by omega)
  have hFq_3 : cFr [12] [(10, 2)] q q_3 := by rw [eq_3]; exact hFq_2.f (by decide)
  exact dOk_some (show (TC q_3) ∧ (cFr [12] [(10, 2)] q q_3) from ⟨hTq_3, hFq_3⟩)

set_option maxHeartbeats 4000000 in
set_option maxRecDepth 100000 in
theorem ok_X8_anyBetween_s2 (q : dK) (p1 : Int32) (p2 : Int32) (hT : TC q) : dOk (zX8_anyBetween_s2 q p1 p2) (fun (o : Int32 × dK) => (o.2 = q) ∧ ((Int32.toInt o.1 = 0 ∨ Int32.toInt o.1 = 1))) := by
  unfold zX8_anyBetween_s2
  unfold zX8_anyBetween_s2_2
  refine dFix_ok (fun (a : dK × Int32 × Int32 × Int32) => (a.1 = q) ∧ (a.2.1 = p1) ∧ (a.2.2.1 = p2) ∧ (0 ≤ Int32.toInt a.2.2.2) ∧ (Int32.toInt a.2.2.2 ≤ 6)) (fun (a : dK × Int32 × Int32 × Int32) => (6 - Int32.toInt a.2.2.2).toNat) ?_ _ ?_ _ (dF_gt ?_)
  · intro a ha k_2 hk_1
    obtain ⟨q_3, x1_4, x2_5, x3_6⟩ := a
    replace ha : (q_3 = q) ∧ (x1_4 = p1) ∧ (x2_5 = p2) ∧ (0 ≤ Int32.toInt x3_6) ∧ (Int32.toInt x3_6 ≤ 6) := ha
    obtain ⟨a_7, a_8, a_9, a_10, a_11⟩ := ha
    show dOk (zX8_anyBetween_s2_2b  (fun q x1 x2 x3 => k_2 (q, x1, x2, x3)) q_3 x1_4 x2_5 x3_6) _
    unfold zX8_anyBetween_s2_2b
    subst q_3
    subst x1_4
    subst x2_5
    have f_12 : 0 ≤ Int32.toInt (q.1 2 2) ∧ Int32.toInt (q.1 2 2) ≤ 6 := rg_2_2 hT
    refine dOk_le (A := Int32.toInt (q.1 2 2)) (B := Int32.toInt x3_6) rfl rfl (fun c_13 => ?_) (fun c_14 => ?_)
    · exact dOk_some (show (q = q) ∧ (((0 : Int) = 0 ∨ (0 : Int) = 1)) from ⟨rfl, by omega⟩)
    · refine dOk_G (dg_ok (show 0 ≤ Int32.toInt x3_6 by omega) (show Int32.toInt x3_6 < ((6 : Nat) : Int) by omega)) ?_
      have n_15 : ((Int32.toNatClampNeg x3_6 : Nat) : Int) = Int32.toInt x3_6 := cl_eq (by omega)
      refine dOk_L (fun v_16 ev_16 => ?_)
      have f_17 : 0 ≤ Int32.toInt v_16 ∧ Int32.toInt v_16 ≤ 7 := by rw [ev_16]; exact rg_3 hT _
      refine dOk_le (A := Int32.toInt v_16) (B := Int32.toInt p1) rfl rfl (fun c_18 => ?_) (fun c_19 => ?_)
      · unfold zX8_anyBetween_s2_32
        try have t_20 : Int32.toInt (x3_6 + 1) = Int32.toInt x3_6 + 1 := ti_add rfl (by decide) (by omega) (by omega)
        exact hk_1 (q, p1, p2, (x3_6 + 1)) (show (q = q) ∧ (p1 = p1) ∧ (p2 = p2) ∧ (0 ≤ Int32.toInt (x3_6 + 1)) ∧ (Int32.toInt (x3_6 + 1) ≤ 6) from ⟨rfl, rfl, rfl, by omega, by omega⟩) (show (6 - Int32.toInt (x3_6 + 1)).toNat < (6 - Int32.toInt x3_6).toNat by omega)
      · refine dOk_G (dg_ok (show 0 ≤ Int32.toInt x3_6 by omega) (show Int32.toInt x3_6 < ((6 : Nat) : Int) by omega)) ?_
        refine dOk_L (fun v_21 ev_21 => ?_)
        have w_22 : Int32.toInt v_21 = Int32.toInt v_16 := by rw [ev_21, ev_16]
        have f_23 : 0 ≤ Int32.toInt v_21 ∧ Int32.toInt v_21 ≤ 7 := by rw [ev_21]; exact rg_3 hT _
        refine dOk_le (A := Int32.toInt p2) (B := Int32.toInt v_21) rfl rfl (fun c_24 => ?_) (fun c_25 => ?_)
        · unfold zX8_anyBetween_s2_32
          try have t_26 : Int32.toInt (x3_6 + 1) = Int32.toInt x3_6 + 1 := ti_add rfl (by decide) (by omega) (by omega)
          exact hk_1 (q, p1, p2, (x3_6 + 1)) (show (q = q) ∧ (p1 = p1) ∧ (p2 = p2) ∧ (0 ≤ Int32.toInt (x3_6 + 1)) ∧ (Int32.toInt (x3_6 + 1) ≤ 6) from ⟨rfl, rfl, rfl, by omega, by omega⟩) (show (6 - Int32.toInt (x3_6 + 1)).toNat < (6 - Int32.toInt x3_6).toNat by omega)
        · exact dOk_some (show (q = q) ∧ (((1 : Int) = 0 ∨ (1 : Int) = 1)) from ⟨rfl, by omega⟩)
  · exact (show (q = q) ∧ (p1 = p1) ∧ (p2 = p2) ∧ (0 ≤ (0 : Int)) ∧ ((0 : Int) ≤ 6) from ⟨rfl, rfl, rfl, by omega, by omega⟩)
  · show (6 - (0 : Int)).toNat < 1000000000000
    omega

set_option maxHeartbeats 4000000 in
set_option maxRecDepth 100000 in
theorem ok_X8_gapCount_s2 (q : dK) (hT : TC q) : dOk (zX8_gapCount_s2 q) (fun (o : Int32 × dK) => (o.2 = q)) := by
  unfold zX8_gapCount_s2
  unfold zX8_gapCount_s2_4
  refine dFix_ok (fun (a : dK × Int32 × Int32) => (a.1 = q) ∧ (0 ≤ Int32.toInt a.2.2) ∧ (Int32.toInt a.2.2 ≤ 6)) (fun (a : dK × Int32 × Int32) => (6 - Int32.toInt a.2.2).toNat) ?_ _ ?_ _ (dF_gt ?_)
  · intro a ha k_2 hk_1
    obtain ⟨q_3, x1_4, x2_5⟩ := a
    replace ha : (q_3 = q) ∧ (0 ≤ Int32.toInt x2_5) ∧ (Int32.toInt x2_5 ≤ 6) := ha
    obtain ⟨a_6, a_7, a_8⟩ := ha
    show dOk (zX8_gapCount_s2_4b  (fun q x1 x2 => k_2 (q, x1, x2)) q_3 x1_4 x2_5) _
    unfold zX8_gapCount_s2_4b
    subst q_3
    have f_9 : 0 ≤ Int32.toInt (q.1 2 2) ∧ Int32.toInt (q.1 2 2) ≤ 6 := rg_2_2 hT
    try have t_10 : Int32.toInt (x2_5 + 1) = Int32.toInt x2_5 + 1 := ti_add rfl (by decide) (by omega) (by omega)
    refine dOk_le (A := Int32.toInt (q.1 2 2)) (B := Int32.toInt (x2_5 + 1)) rfl rfl (fun c_11 => ?_) (fun c_12 => ?_)
    · refine dOk_eq (A := Int32.toInt (q.1 2 2)) (B := 0) rfl (by decide) (fun c_13z c_13 => ?_) (fun c_14z c_14 => ?_)
      · unfold zX8_gapCount_s2_97
        exact dOk_some (show (q = q) from rfl)
      · try have t_16 : Int32.toInt (q.1 2 2 - 1) = Int32.toInt (q.1 2 2) - 1 := ti_sub rfl (by decide) (by omega) (by omega)
        refine dOk_G (dg_ok (show 0 ≤ Int32.toInt (q.1 2 2 - 1) by omega) (show Int32.toInt (q.1 2 2 - 1) < ((6 : Nat) : Int) by omega)) ?_
        have n_17 : ((Int32.toNatClampNeg (q.1 2 2 - 1) : Nat) : Int) = Int32.toInt (q.1 2 2 - 1) := cl_eq (by omega)
        refine dOk_L (fun v_18 ev_18 => ?_)
        have f_19 : 0 ≤ Int32.toInt v_18 ∧ Int32.toInt v_18 ≤ 7 := by rw [ev_18]; exact rg_3 hT _
        refine dOk_B (ok_X8_anyBetween_s2 q v_18 6 hT) (fun r_20 q_21 h_22 => ?_)
        replace h_22 : (q_21 = q) ∧ ((Int32.toInt r_20 = 0 ∨ Int32.toInt r_20 = 1)) := h_22
        obtain ⟨i_23, i_24⟩ := h_22
        subst q_21
        refine dOk_V (ok_X9_bit r_20) (fun r_25 h_26 => ?_)
        replace h_26 : ((Int32.toInt r_25 = 0 ∨ Int32.toInt r_25 = 1)) := h_26
        have i_27 := h_26
        unfold zX8_gapCount_s2_97
        try have t_28 : Int32.toInt (x1_4 + r_25) = Int32.toInt x1_4 + Int32.toInt r_25 := ti_add rfl rfl (by omega) (by omega)
        exact dOk_some (show (q = q) from rfl)
    · refine dOk_G (dg_ok (show 0 ≤ Int32.toInt x2_5 by omega) (show Int32.toInt x2_5 < ((6 : Nat) : Int) by omega)) ?_
      have n_29 : ((Int32.toNatClampNeg x2_5 : Nat) : Int) = Int32.toInt x2_5 := cl_eq (by omega)
      refine dOk_L (fun v_30 ev_30 => ?_)
      have f_31 : 0 ≤ Int32.toInt v_30 ∧ Int32.toInt v_30 ≤ 7 := by rw [ev_30]; exact rg_3 hT _
      refine dOk_G (dg_ok (show 0 ≤ Int32.toInt (x2_5 + 1) by omega) (show Int32.toInt (x2_5 + 1) < ((6 : Nat) : Int) by omega)) ?_
      have n_32 : ((Int32.toNatClampNeg (x2_5 + 1) : Nat) : Int) = Int32.toInt (x2_5 + 1) := cl_eq (by omega)
      refine dOk_L (fun v_33 ev_33 => ?_)
      have f_34 : 0 ≤ Int32.toInt v_33 ∧ Int32.toInt v_33 ≤ 7 := by rw [ev_33]; exact rg_3 hT _
      refine dOk_G (dg_ok (show 0 ≤ Int32.toInt x2_5 by omega) (show Int32.toInt x2_5 < ((6 : Nat) : Int) by omega)) ?_
      refine dOk_L (fun v_35 ev_35 => ?_)
      have w_36 : Int32.toInt v_35 = Int32.toInt v_30 := by rw [ev_35, ev_30]
      have f_37 : 0 ≤ Int32.toInt v_35 ∧ Int32.toInt v_35 ≤ 7 := by rw [ev_35]; exact rg_3 hT _
      refine dOk_G (dg_ok (show 0 ≤ Int32.toInt (x2_5 + 1) by omega) (show Int32.toInt (x2_5 + 1) < ((6 : Nat) : Int) by omega)) ?_
      refine dOk_L (fun v_38 ev_38 => ?_)
      have w_39 : Int32.toInt v_38 = Int32.toInt v_33 := by rw [ev_38, ev_33]
      have f_40 : 0 ≤ Int32.toInt v_38 ∧ Int32.toInt v_38 ≤ 7 := by rw [ev_38]; exact rg_3 hT _
      have t_41 : Int32.toInt (mnI v_30 v_33) ≤ Int32.toInt v_30 ∧ Int32.toInt (mnI v_30 v_33) ≤ Int32.toInt v_33 ∧ (Int32.toInt (mnI v_30 v_33) = Int32.toInt v_30 ∨ Int32.toInt (mnI v_30 v_33) = Int32.toInt v_33) := mn_le
      have t_42 : Int32.toInt v_35 ≤ Int32.toInt (mxI v_35 v_38) ∧ Int32.toInt v_38 ≤ Int32.toInt (mxI v_35 v_38) ∧ (Int32.toInt (mxI v_35 v_38) = Int32.toInt v_35 ∨ Int32.toInt (mxI v_35 v_38) = Int32.toInt v_38) := mx_le
      refine dOk_B (ok_X8_anyBetween_s2 q (mnI v_30 v_33) (mxI v_35 v_38) hT) (fun r_43 q_44 h_45 => ?_)
      replace h_45 : (q_44 = q) ∧ ((Int32.toInt r_43 = 0 ∨ Int32.toInt r_43 = 1)) := h_45
      obtain ⟨i_46, i_47⟩ := h_45
      subst q_44
      refine dOk_V (ok_X9_bit r_43) (fun r_48 h_49 => ?_)
      replace h_49 : ((Int32.toInt r_48 = 0 ∨ Int32.toInt r_48 = 1)) := h_49
      have i_50 := h_49
      try have t_51 : Int32.toInt (x1_4 + r_48) = Int32.toInt x1_4 + Int32.toInt r_48 := ti_add rfl rfl (by omega) (by omega)
      exact hk_1 (q, (x1_4 + r_48), (x2_5 + 1)) (show (q = q) ∧ (0 ≤ Int32.toInt (x2_5 + 1)) ∧ (Int32.toInt (x2_5 + 1) ≤ 6) from ⟨rfl, by omega, by omega⟩) (show (6 - Int32.toInt (x2_5 + 1)).toNat < (6 - Int32.toInt x2_5).toNat by omega)
  · exact (show (q = q) ∧ (0 ≤ (0 : Int)) ∧ ((0 : Int) ≤ 6) from ⟨rfl, by omega, by omega⟩)
  · show (6 - (0 : Int)).toNat < 1000000000000
    omega

set_option maxHeartbeats 4000000 in
set_option maxRecDepth 100000 in
theorem ok_X9_gaps_s0 (q : dK) (hT : TC q) : dOk (zX9_gaps_s0 q) (fun (o : Int32 × dK) => (o.2 = q)) := by
  unfold zX9_gaps_s0
  refine dOk_B (ok_X8_gapCount_s2 q hT) (fun r_1 q_2 h_3 => ?_)
  replace h_3 : (q_2 = q) := h_3
  have i_4 := h_3
  subst q_2
  exact dOk_some (show (q = q) from rfl)
end
section
set_option maxHeartbeats 4000000 in
set_option maxRecDepth 100000 in
theorem ok_X8_rises_s2 (q : dK) (p1 : Int32) (p2 : Int32) (hT : TC q) : dOk (zX8_rises_s2 q p1 p2) (fun (o : Int32 × dK) => (o.2 = q) ∧ ((Int32.toInt o.1 = 0 ∨ Int32.toInt o.1 = 1))) := by
  unfold zX8_rises_s2
  unfold zX8_rises_s2_5
  refine dFix_ok (fun (a : dK × Int32 × Int32 × Int32 × Int32) => (a.1 = q) ∧ (a.2.1 = p1) ∧ (a.2.2.1 = p2) ∧ (0 ≤ Int32.toInt a.2.2.2.2) ∧ (Int32.toInt a.2.2.2.2 ≤ 6)) (fun (a : dK × Int32 × Int32 × Int32 × Int32) => (6 - Int32.toInt a.2.2.2.2).toNat) ?_ _ ?_ _ (dF_gt ?_)
  · intro a ha k_2 hk_1
    obtain ⟨q_3, x1_4, x2_5, x3_6, x4_7⟩ := a
    replace ha : (q_3 = q) ∧ (x1_4 = p1) ∧ (x2_5 = p2) ∧ (0 ≤ Int32.toInt x4_7) ∧ (Int32.toInt x4_7 ≤ 6) := ha
    obtain ⟨a_8, a_9, a_10, a_11, a_12⟩ := ha
    show dOk (zX8_rises_s2_5b  (fun q x1 x2 x3 x4 => k_2 (q, x1, x2, x3, x4)) q_3 x1_4 x2_5 x3_6 x4_7) _
    unfold zX8_rises_s2_5b
    subst q_3
    subst x1_4
    subst x2_5
    have f_13 : 0 ≤ Int32.toInt (q.1 2 2) ∧ Int32.toInt (q.1 2 2) ≤ 6 := rg_2_2 hT
    refine dOk_le (A := Int32.toInt (q.1 2 2)) (B := Int32.toInt x4_7) rfl rfl (fun c_14 => ?_) (fun c_15 => ?_)
    · exact dOk_some (show (q = q) ∧ (((1 : Int) = 0 ∨ (1 : Int) = 1)) from ⟨rfl, by omega⟩)
    · try have t_16 := ti_shr (x := p1) (s := x4_7) (by omega)
      have t_17 := ti_and1 (p1 >>> ((x4_7 : Int32) &&& 31))
      refine dOk_eq (A := Int32.toInt (p1 >>> ((x4_7 : Int32) &&& 31) &&& 1)) (B := 1) rfl (by decide) (fun c_18z c_18 => ?_) (fun c_19z c_19 => ?_)
      · refine dOk_G (dg_ok (show 0 ≤ Int32.toInt x4_7 by omega) (show Int32.toInt x4_7 < ((6 : Nat) : Int) by omega)) ?_
        have n_21 : ((Int32.toNatClampNeg x4_7 : Nat) : Int) = Int32.toInt x4_7 := cl_eq (by omega)
        refine dOk_L (fun v_22 ev_22 => ?_)
        have f_23 : 0 ≤ Int32.toInt v_22 ∧ Int32.toInt v_22 ≤ 7 := by rw [ev_22]; exact rg_3 hT _
        refine dOk_lt (A := Int32.toInt v_22) (B := Int32.toInt x3_6) rfl rfl (fun c_24 => ?_) (fun c_25 => ?_)
        · unfold zX8_rises_s2_51
          exact dOk_some (show (q = q) ∧ (((0 : Int) = 0 ∨ (0 : Int) = 1)) from ⟨rfl, by omega⟩)
        · refine dOk_eq (A := Int32.toInt p2) (B := 1) rfl (by decide) (fun c_26z c_26 => ?_) (fun c_27z c_27 => ?_)
          · refine dOk_G (dg_ok (show 0 ≤ Int32.toInt x4_7 by omega) (show Int32.toInt x4_7 < ((6 : Nat) : Int) by omega)) ?_
            refine dOk_L (fun v_29 ev_29 => ?_)
            have f_30 : 0 ≤ Int32.toInt v_29 ∧ Int32.toInt v_29 ≤ 1 := by rw [ev_29]; exact rg_4 hT _
            refine dOk_eq (A := Int32.toInt v_29) (B := 1) rfl (by decide) (fun c_31z c_31 => ?_) (fun c_32z c_32 => ?_)
            · unfold zX8_rises_s2_51
              exact dOk_some (show (q = q) ∧ (((0 : Int) = 0 ∨ (0 : Int) = 1)) from ⟨rfl, by omega⟩)
            · unfold zX8_rises_s2_53
              refine dOk_G (dg_ok (show 0 ≤ Int32.toInt x4_7 by omega) (show Int32.toInt x4_7 < ((6 : Nat) : Int) by omega)) ?_
              refine dOk_L (fun v_34 ev_34 => ?_)
              have w_35 : Int32.toInt v_34 = Int32.toInt v_22 := by rw [ev_34, ev_22]
              have f_36 : 0 ≤ Int32.toInt v_34 ∧ Int32.toInt v_34 ≤ 7 := by rw [ev_34]; exact rg_3 hT _
              unfold zX8_rises_s2_61
              try have t_37 : Int32.toInt (x4_7 + 1) = Int32.toInt x4_7 + 1 := ti_add rfl (by decide) (by omega) (by omega)
              exact hk_1 (q, p1, p2, v_34, (x4_7 + 1)) (show (q = q) ∧ (p1 = p1) ∧ (p2 = p2) ∧ (0 ≤ Int32.toInt (x4_7 + 1)) ∧ (Int32.toInt (x4_7 + 1) ≤ 6) from ⟨rfl, rfl, rfl, by omega, by omega⟩) (show (6 - Int32.toInt (x4_7 + 1)).toNat < (6 - Int32.toInt x4_7).toNat by omega)
          · unfold zX8_rises_s2_53
            refine dOk_G (dg_ok (show 0 ≤ Int32.toInt x4_7 by omega) (show Int32.toInt x4_7 < ((6 : Nat) : Int) by omega)) ?_
            refine dOk_L (fun v_38 ev_38 => ?_)
            have w_39 : Int32.toInt v_38 = Int32.toInt v_22 := by rw [ev_38, ev_22]
            have f_40 : 0 ≤ Int32.toInt v_38 ∧ Int32.toInt v_38 ≤ 7 := by rw [ev_38]; exact rg_3 hT _
            unfold zX8_rises_s2_61
            try have t_41 : Int32.toInt (x4_7 + 1) = Int32.toInt x4_7 + 1 := ti_add rfl (by decide) (by omega) (by omega)
            exact hk_1 (q, p1, p2, v_38, (x4_7 + 1)) (show (q = q) ∧ (p1 = p1) ∧ (p2 = p2) ∧ (0 ≤ Int32.toInt (x4_7 + 1)) ∧ (Int32.toInt (x4_7 + 1) ≤ 6) from ⟨rfl, rfl, rfl, by omega, by omega⟩) (show (6 - Int32.toInt (x4_7 + 1)).toNat < (6 - Int32.toInt x4_7).toNat by omega)
      · unfold zX8_rises_s2_61
        try have t_42 : Int32.toInt (x4_7 + 1) = Int32.toInt x4_7 + 1 := ti_add rfl (by decide) (by omega) (by omega)
        exact hk_1 (q, p1, p2, x3_6, (x4_7 + 1)) (show (q = q) ∧ (p1 = p1) ∧ (p2 = p2) ∧ (0 ≤ Int32.toInt (x4_7 + 1)) ∧ (Int32.toInt (x4_7 + 1) ≤ 6) from ⟨rfl, rfl, rfl, by omega, by omega⟩) (show (6 - Int32.toInt (x4_7 + 1)).toNat < (6 - Int32.toInt x4_7).toNat by omega)
  · exact (show (q = q) ∧ (p1 = p1) ∧ (p2 = p2) ∧ (0 ≤ (0 : Int)) ∧ ((0 : Int) ≤ 6) from ⟨rfl, rfl, rfl, by omega, by omega⟩)
  · show (6 - (0 : Int)).toNat < 1000000000000
    omega

set_option maxHeartbeats 4000000 in
set_option maxRecDepth 100000 in
theorem ok_X8_rankBehindTurn_s2 (q : dK) (p1 : Int32) (p2 : Int32) (hT : TC q) : dOk (zX8_rankBehindTurn_s2 q p1 p2) (fun (o : Int32 × dK) => (o.2 = q)) := by
  unfold zX8_rankBehindTurn_s2
  refine dOk_le (A := Int32.toInt p1) (B := Int32.toInt p2) rfl rfl (fun c_1 => ?_) (fun c_2 => ?_)
  · unfold zX8_rankBehindTurn_s2_14
    refine dOk_B (ok_X8_isFloor_s2 q p2 hT) (fun r_3 q_4 h_5 => ?_)
    replace h_5 : (q_4 = q) ∧ ((Int32.toInt r_3 = 1 ∧ 0 ≤ Int32.toInt p2 ∧ Int32.toInt p2 < Int32.toInt (q.1 2 2)) ∨ (Int32.toInt r_3 = 0 ∧ (Int32.toInt p2 < 0 ∨ Int32.toInt (q.1 2 2) ≤ Int32.toInt p2))) := h_5
    obtain ⟨i_6, i_7⟩ := h_5
    subst q_4
    have f_8 : 0 ≤ Int32.toInt (q.1 2 2) ∧ Int32.toInt (q.1 2 2) ≤ 6 := rg_2_2 hT
    refine dOk_eq (A := Int32.toInt r_3) (B := 0) rfl (by decide) (fun c_9z c_9 => ?_) (fun c_10z c_10 => ?_)
    · unfold zX8_rankBehindTurn_s2_33
      exact dOk_some (show (q = q) from rfl)
    · refine dOk_G (dg_ok (show 0 ≤ Int32.toInt p2 by omega) (show Int32.toInt p2 < ((6 : Nat) : Int) by omega)) ?_
      have n_12 : ((Int32.toNatClampNeg p2 : Nat) : Int) = Int32.toInt p2 := cl_eq (by omega)
      refine dOk_L (fun v_13 ev_13 => ?_)
      have f_14 : 0 ≤ Int32.toInt v_13 ∧ Int32.toInt v_13 ≤ 7 := by rw [ev_13]; exact rg_3 hT _
      unfold zX8_rankBehindTurn_s2_33
      exact dOk_some (show (q = q) from rfl)
  · unfold zX8_rankBehindTurn_s2_14
    try have t_15 : Int32.toInt (p1 - 1) = Int32.toInt p1 - 1 := ti_sub rfl (by decide) (by omega) (by omega)
    try have t_16 : Int32.toInt (p1 - 1 - p2) = Int32.toInt (p1 - 1) - Int32.toInt p2 := ti_sub rfl rfl (by omega) (by omega)
    refine dOk_B (ok_X8_isFloor_s2 q (p1 - 1 - p2) hT) (fun r_17 q_18 h_19 => ?_)
    replace h_19 : (q_18 = q) ∧ ((Int32.toInt r_17 = 1 ∧ 0 ≤ Int32.toInt (p1 - 1 - p2) ∧ Int32.toInt (p1 - 1 - p2) < Int32.toInt (q.1 2 2)) ∨ (Int32.toInt r_17 = 0 ∧ (Int32.toInt (p1 - 1 - p2) < 0 ∨ Int32.toInt (q.1 2 2) ≤ Int32.toInt (p1 - 1 - p2)))) := h_19
    obtain ⟨i_20, i_21⟩ := h_19
    subst q_18
    have f_22 : 0 ≤ Int32.toInt (q.1 2 2) ∧ Int32.toInt (q.1 2 2) ≤ 6 := rg_2_2 hT
    refine dOk_eq (A := Int32.toInt r_17) (B := 0) rfl (by decide) (fun c_23z c_23 => ?_) (fun c_24z c_24 => ?_)
    · unfold zX8_rankBehindTurn_s2_33
      exact dOk_some (show (q = q) from rfl)
    · refine dOk_G (dg_ok (show 0 ≤ Int32.toInt (p1 - 1 - p2) by omega) (show Int32.toInt (p1 - 1 - p2) < ((6 : Nat) : Int) by omega)) ?_
      have n_26 : ((Int32.toNatClampNeg (p1 - 1 - p2) : Nat) : Int) = Int32.toInt (p1 - 1 - p2) := cl_eq (by omega)
      refine dOk_L (fun v_27 ev_27 => ?_)
      have f_28 : 0 ≤ Int32.toInt v_27 ∧ Int32.toInt v_27 ≤ 7 := by rw [ev_27]; exact rg_3 hT _
      unfold zX8_rankBehindTurn_s2_33
      exact dOk_some (show (q = q) from rfl)

set_option maxHeartbeats 4000000 in
set_option maxRecDepth 100000 in
theorem ok_X6_agrees_s1 (q : dK) (p1 : Int32) (hT : TC q) : dOk (zX6_agrees_s1 q p1) (fun (o : Int32 × dK) => (o.2 = q) ∧ ((Int32.toInt o.1 = 0 ∨ Int32.toInt o.1 = 1))) := by
  unfold zX6_agrees_s1
  unfold zX6_agrees_s1_2
  refine dFix_ok (fun (a : dK × Int32 × Int32) => (a.1 = q) ∧ (a.2.1 = p1) ∧ (0 ≤ Int32.toInt a.2.2) ∧ (Int32.toInt a.2.2 ≤ 6)) (fun (a : dK × Int32 × Int32) => (6 - Int32.toInt a.2.2).toNat) ?_ _ ?_ _ (dF_gt ?_)
  · intro a ha k_2 hk_1
    obtain ⟨q_3, x1_4, x2_5⟩ := a
    replace ha : (q_3 = q) ∧ (x1_4 = p1) ∧ (0 ≤ Int32.toInt x2_5) ∧ (Int32.toInt x2_5 ≤ 6) := ha
    obtain ⟨a_6, a_7, a_8, a_9⟩ := ha
    show dOk (zX6_agrees_s1_2b  (fun q x1 x2 => k_2 (q, x1, x2)) q_3 x1_4 x2_5) _
    unfold zX6_agrees_s1_2b
    subst q_3
    subst x1_4
    have f_10 : 0 ≤ Int32.toInt (q.1 1 6) ∧ Int32.toInt (q.1 1 6) ≤ 6 := rg_1_6 hT
    refine dOk_le (A := Int32.toInt (q.1 1 6)) (B := Int32.toInt x2_5) rfl rfl (fun c_11 => ?_) (fun c_12 => ?_)
    · exact dOk_some (show (q = q) ∧ (((1 : Int) = 0 ∨ (1 : Int) = 1)) from ⟨rfl, by omega⟩)
    · refine dOk_G (dg_ok (show 0 ≤ Int32.toInt x2_5 by omega) (show Int32.toInt x2_5 < ((6 : Nat) : Int) by omega)) ?_
      have n_13 : ((Int32.toNatClampNeg x2_5 : Nat) : Int) = Int32.toInt x2_5 := cl_eq (by omega)
      refine dOk_L (fun v_14 ev_14 => ?_)
      refine dOk_B (ok_X8_rankBehindTurn_s2 q p1 v_14 hT) (fun r_15 q_16 h_17 => ?_)
      replace h_17 : (q_16 = q) := h_17
      have i_18 := h_17
      subst q_16
      refine dOk_G (dg_ok (show 0 ≤ Int32.toInt x2_5 by omega) (show Int32.toInt x2_5 < ((6 : Nat) : Int) by omega)) ?_
      refine dOk_L (fun v_19 ev_19 => ?_)
      refine dOk_eq (A := Int32.toInt r_15) (B := Int32.toInt v_19) rfl rfl (fun c_20z c_20 => ?_) (fun c_21z c_21 => ?_)
      · try have t_23 : Int32.toInt (x2_5 + 1) = Int32.toInt x2_5 + 1 := ti_add rfl (by decide) (by omega) (by omega)
        exact hk_1 (q, p1, (x2_5 + 1)) (show (q = q) ∧ (p1 = p1) ∧ (0 ≤ Int32.toInt (x2_5 + 1)) ∧ (Int32.toInt (x2_5 + 1) ≤ 6) from ⟨rfl, rfl, by omega, by omega⟩) (show (6 - Int32.toInt (x2_5 + 1)).toNat < (6 - Int32.toInt x2_5).toNat by omega)
      · exact dOk_some (show (q = q) ∧ (((0 : Int) = 0 ∨ (0 : Int) = 1)) from ⟨rfl, by omega⟩)
  · exact (show (q = q) ∧ (p1 = p1) ∧ (0 ≤ (0 : Int)) ∧ ((0 : Int) ≤ 6) from ⟨rfl, rfl, by omega, by omega⟩)
  · show (6 - (0 : Int)).toNat < 1000000000000
    omega

set_option maxHeartbeats 4000000 in
set_option maxRecDepth 100000 in
theorem ok_X8_mostAlike_s2 (q : dK) (p1 : Int32) (p2 : Int32) (hT : TC q) : dOk (zX8_mostAlike_s2 q p1 p2) (fun (o : Int32 × dK) => (o.2 = q)) := by
  unfold zX8_mostAlike_s2
  unfold zX8_mostAlike_s2_5
  refine dFix_ok (fun (a : dK × Int32 × Int32 × Int32 × Int32) => (a.1 = q) ∧ (a.2.1 = p1) ∧ (a.2.2.1 = p2) ∧ (0 ≤ Int32.toInt a.2.2.2.2) ∧ (Int32.toInt a.2.2.2.2 ≤ 6)) (fun (a : dK × Int32 × Int32 × Int32 × Int32) => (6 - Int32.toInt a.2.2.2.2).toNat) ?_ _ ?_ _ (dF_gt ?_)
  · intro a ha k_2 hk_1
    obtain ⟨q_3, x1_4, x2_5, x3_6, x4_7⟩ := a
    replace ha : (q_3 = q) ∧ (x1_4 = p1) ∧ (x2_5 = p2) ∧ (0 ≤ Int32.toInt x4_7) ∧ (Int32.toInt x4_7 ≤ 6) := ha
    obtain ⟨a_8, a_9, a_10, a_11, a_12⟩ := ha
    show dOk (zX8_mostAlike_s2_5b  (fun q x1 x2 x3 x4 => k_2 (q, x1, x2, x3, x4)) q_3 x1_4 x2_5 x3_6 x4_7) _
    unfold zX8_mostAlike_s2_5b
    subst q_3
    subst x1_4
    subst x2_5
    refine dOk_le (A := 6) (B := Int32.toInt x4_7) (by decide) rfl (fun c_13 => ?_) (fun c_14 => ?_)
    · exact dOk_some (show (q = q) from rfl)
    · unfold zX8_mostAlike_s2_18
      refine dFix_ok (fun (a : dK × Int32 × Int32 × Int32 × Int32 × Int32 × Int32) => (a.1 = q) ∧ (a.2.1 = p1) ∧ (a.2.2.1 = p2) ∧ (a.2.2.2.1 = x3_6) ∧ (a.2.2.2.2.1 = x4_7) ∧ (1 ≤ Int32.toInt a.2.2.2.2.2.2) ∧ (Int32.toInt a.2.2.2.2.2.2 ≤ 7)) (fun (a : dK × Int32 × Int32 × Int32 × Int32 × Int32 × Int32) => (7 - Int32.toInt a.2.2.2.2.2.2).toNat) ?_ _ ?_ _ (dF_gt ?_)
      · intro a ha k_16 hk_15
        obtain ⟨q_17, x1_18, x2_19, x3_20, x4_21, x5_22, x6_23⟩ := a
        replace ha : (q_17 = q) ∧ (x1_18 = p1) ∧ (x2_19 = p2) ∧ (x3_20 = x3_6) ∧ (x4_21 = x4_7) ∧ (1 ≤ Int32.toInt x6_23) ∧ (Int32.toInt x6_23 ≤ 7) := ha
        obtain ⟨a_24, a_25, a_26, a_27, a_28, a_29, a_30⟩ := ha
        show dOk (zX8_mostAlike_s2_18b _ (fun q x1 x2 x3 x4 x5 x6 => k_16 (q, x1, x2, x3, x4, x5, x6)) q_17 x1_18 x2_19 x3_20 x4_21 x5_22 x6_23) _
        unfold zX8_mostAlike_s2_18b
        subst q_17
        subst x1_18
        subst x2_19
        subst x3_20
        subst x4_21
        have f_31 : 0 ≤ Int32.toInt (q.1 2 2) ∧ Int32.toInt (q.1 2 2) ≤ 6 := rg_2_2 hT
        refine dOk_lt (A := Int32.toInt (q.1 2 2)) (B := Int32.toInt x6_23) rfl rfl (fun c_32 => ?_) (fun c_33 => ?_)
        · have t_34 : Int32.toInt x3_6 ≤ Int32.toInt (mxI x3_6 x5_22) ∧ Int32.toInt x5_22 ≤ Int32.toInt (mxI x3_6 x5_22) ∧ (Int32.toInt (mxI x3_6 x5_22) = Int32.toInt x3_6 ∨ Int32.toInt (mxI x3_6 x5_22) = Int32.toInt x5_22) := mx_le
          try have t_35 : Int32.toInt (x4_7 + 1) = Int32.toInt x4_7 + 1 := ti_add rfl (by decide) (by omega) (by omega)
          exact hk_1 (q, p1, p2, (mxI x3_6 x5_22), (x4_7 + 1)) (show (q = q) ∧ (p1 = p1) ∧ (p2 = p2) ∧ (0 ≤ Int32.toInt (x4_7 + 1)) ∧ (Int32.toInt (x4_7 + 1) ≤ 6) from ⟨rfl, rfl, rfl, by omega, by omega⟩) (show (6 - Int32.toInt (x4_7 + 1)).toNat < (6 - Int32.toInt x4_7).toNat by omega)
        · try have t_36 := ti_shr (x := p1) (s := x6_23) (by omega)
          have t_37 := ti_and1 (p1 >>> ((x6_23 : Int32) &&& 31))
          refine dOk_eq (A := Int32.toInt (p1 >>> ((x6_23 : Int32) &&& 31) &&& 1)) (B := 1) rfl (by decide) (fun c_38z c_38 => ?_) (fun c_39z c_39 => ?_)
          · refine dOk_B (ok_X8_rankBehindTurn_s2 q x6_23 p2 hT) (fun r_41 q_42 h_43 => ?_)
            replace h_43 : (q_42 = q) := h_43
            have i_44 := h_43
            subst q_42
            refine dOk_eq (A := Int32.toInt r_41) (B := Int32.toInt x4_7) rfl rfl (fun c_45z c_45 => ?_) (fun c_46z c_46 => ?_)
            · unfold zX8_mostAlike_s2_56
              refine dOk_V (ok_X9_bit 1) (fun r_48 h_49 => ?_)
              replace h_49 : ((Int32.toInt r_48 = 0 ∨ Int32.toInt r_48 = 1)) := h_49
              have i_50 := h_49
              try have t_51 : Int32.toInt (x5_22 + r_48) = Int32.toInt x5_22 + Int32.toInt r_48 := ti_add rfl rfl (by omega) (by omega)
              try have t_52 : Int32.toInt (x6_23 + 1) = Int32.toInt x6_23 + 1 := ti_add rfl (by decide) (by omega) (by omega)
              exact hk_15 (q, p1, p2, x3_6, x4_7, (x5_22 + r_48), (x6_23 + 1)) (show (q = q) ∧ (p1 = p1) ∧ (p2 = p2) ∧ (x3_6 = x3_6) ∧ (x4_7 = x4_7) ∧ (1 ≤ Int32.toInt (x6_23 + 1)) ∧ (Int32.toInt (x6_23 + 1) ≤ 7) from ⟨rfl, rfl, rfl, rfl, rfl, by omega, by omega⟩) (show (7 - Int32.toInt (x6_23 + 1)).toNat < (7 - Int32.toInt x6_23).toNat by omega)
            · unfold zX8_mostAlike_s2_55
              unfold zX8_mostAlike_s2_56
              refine dOk_V (ok_X9_bit 0) (fun r_53 h_54 => ?_)
              replace h_54 : ((Int32.toInt r_53 = 0 ∨ Int32.toInt r_53 = 1)) := h_54
              have i_55 := h_54
              try have t_56 : Int32.toInt (x5_22 + r_53) = Int32.toInt x5_22 + Int32.toInt r_53 := ti_add rfl rfl (by omega) (by omega)
              try have t_57 : Int32.toInt (x6_23 + 1) = Int32.toInt x6_23 + 1 := ti_add rfl (by decide) (by omega) (by omega)
              exact hk_15 (q, p1, p2, x3_6, x4_7, (x5_22 + r_53), (x6_23 + 1)) (show (q = q) ∧ (p1 = p1) ∧ (p2 = p2) ∧ (x3_6 = x3_6) ∧ (x4_7 = x4_7) ∧ (1 ≤ Int32.toInt (x6_23 + 1)) ∧ (Int32.toInt (x6_23 + 1) ≤ 7) from ⟨rfl, rfl, rfl, rfl, rfl, by omega, by omega⟩) (show (7 - Int32.toInt (x6_23 + 1)).toNat < (7 - Int32.toInt x6_23).toNat by omega)
          · unfold zX8_mostAlike_s2_55
            unfold zX8_mostAlike_s2_56
            refine dOk_V (ok_X9_bit 0) (fun r_58 h_59 => ?_)
            replace h_59 : ((Int32.toInt r_58 = 0 ∨ Int32.toInt r_58 = 1)) := h_59
            have i_60 := h_59
            try have t_61 : Int32.toInt (x5_22 + r_58) = Int32.toInt x5_22 + Int32.toInt r_58 := ti_add rfl rfl (by omega) (by omega)
            try have t_62 : Int32.toInt (x6_23 + 1) = Int32.toInt x6_23 + 1 := ti_add rfl (by decide) (by omega) (by omega)
            exact hk_15 (q, p1, p2, x3_6, x4_7, (x5_22 + r_58), (x6_23 + 1)) (show (q = q) ∧ (p1 = p1) ∧ (p2 = p2) ∧ (x3_6 = x3_6) ∧ (x4_7 = x4_7) ∧ (1 ≤ Int32.toInt (x6_23 + 1)) ∧ (Int32.toInt (x6_23 + 1) ≤ 7) from ⟨rfl, rfl, rfl, rfl, rfl, by omega, by omega⟩) (show (7 - Int32.toInt (x6_23 + 1)).toNat < (7 - Int32.toInt x6_23).toNat by omega)
      · exact (show (q = q) ∧ (p1 = p1) ∧ (p2 = p2) ∧ (x3_6 = x3_6) ∧ (x4_7 = x4_7) ∧ (1 ≤ (1 : Int)) ∧ ((1 : Int) ≤ 7) from ⟨rfl, rfl, rfl, rfl, rfl, by omega, by omega⟩)
      · show (7 - (1 : Int)).toNat < 1000000000000
        omega
  · exact (show (q = q) ∧ (p1 = p1) ∧ (p2 = p2) ∧ (0 ≤ (0 : Int)) ∧ ((0 : Int) ≤ 6) from ⟨rfl, rfl, rfl, by omega, by omega⟩)
  · show (6 - (0 : Int)).toNat < 1000000000000
    omega

set_option maxHeartbeats 4000000 in
set_option maxRecDepth 100000 in
theorem ok_X6_copyFrom_s49_s1 (q : dK) (hT : TC q) : dOk (zX6_copyFrom_s49_s1 q) (fun (o : dK) => (TC o) ∧ (cFr [51, 52, 53, 54, 55] [(49, 1), (49, 2), (49, 3), (49, 6), (49, 8), (49, 9), (50, 2), (50, 3), (50, 4)] q o) ∧ (Int32.toInt (o.1 49 6) = Int32.toInt (q.1 1 6)) ∧ (Int32.toInt (o.1 49 1) = Int32.toInt (q.1 1 1))) := by
  unfold zX6_copyFrom_s49_s1
  refine dOk_B (ok_X8_pack_s2 q hT) (fun r_1 q_2 h_3 => ?_)
  replace h_3 : (q_2 = q) ∧ (0 ≤ Int64.toInt r_1) := h_3
  obtain ⟨i_4, i_5⟩ := h_3
  subst q_2
  refine dOk_V (ok_X8_unpack_s50 q (r_1) hT (show 0 ≤ Int64.toInt (r_1) by omega)) (fun q_6 h_7 => ?_)
  replace h_7 : (TC q_6) ∧ (cFr [51, 52] [(50, 2), (50, 3), (50, 4)] q q_6) := h_7
  obtain ⟨i_8, i_9⟩ := h_7
  have hFq_6 : cFr [51, 52, 53, 54, 55] [(49, 1), (49, 2), (49, 3), (49, 6), (49, 8), (49, 9), (50, 2), (50, 3), (50, 4)] q q_6 := (cFr.rf (q := q)).t i_9 (by decide) (by decide)
  refine dOk_L (fun q_10 eq_10 => ?_)
  have f_11 : 0 ≤ Int32.toInt (q_6.1 1 1) ∧ Int32.toInt (q_6.1 1 1) ≤ 10 := rg_1_1 i_8
  have f_12 : 0 ≤ Int32.toInt (q.1 1 1) ∧ Int32.toInt (q.1 1 1) ≤ 10 := rg_1_1 hT
  have w_13 : Int32.toInt (q_6.1 1 1) = Int32.toInt (q.1 1 1) := by rw [i_9.1 1 1 (by decide) (by decide)]
  have hTq_10 : TC q_10 := by rw [eq_10]; exact st_49_1 i_8 (show (0 : Int) ≤ Int32.toInt (q_6.1 1 1) by omega) (show Int32.toInt (q_6.1 1 1) ≤ (10 : Int) by omega)
  have hFq_10 : cFr [51, 52, 53, 54, 55] [(49, 1), (49, 2), (49, 3), (49, 6), (49, 8), (49, 9), (50, 2), (50, 3), (50, 4)] q q_10 := by rw [eq_10]; exact hFq_6.f (by decide)
  refine dOk_L (fun q_14 eq_14 => ?_)
  have w_15 : Int32.toInt (q_6.1 1 2) = Int32.toInt (q.1 1 2) := by rw [i_9.1 1 2 (by decide) (by decide)]
  have w_16 : Int32.toInt (q_10.1 1 2) = Int32.toInt (q_6.1 1 2) := by rw [eq_10, cui_o (by decide)]
  have hTq_14 : TC q_14 := by rw [eq_14]; exact sa_49_2 hTq_10
  have hFq_14 : cFr [51, 52, 53, 54, 55] [(49, 1), (49, 2), (49, 3), (49, 6), (49, 8), (49, 9), (50, 2), (50, 3), (50, 4)] q q_14 := by rw [eq_14]; exact hFq_10.f (by decide)
  refine dOk_L (fun q_17 eq_17 => ?_)
  have w_18 : Int32.toInt (q_6.1 1 3) = Int32.toInt (q.1 1 3) := by rw [i_9.1 1 3 (by decide) (by decide)]
  have w_19 : Int32.toInt (q_10.1 1 3) = Int32.toInt (q_6.1 1 3) := by rw [eq_10, cui_o (by decide)]
  have w_20 : Int32.toInt (q_14.1 1 3) = Int32.toInt (q_10.1 1 3) := by rw [eq_14, cui_o (by decide)]
  have hTq_17 : TC q_17 := by rw [eq_17]; exact sa_49_3 hTq_14
  have hFq_17 : cFr [51, 52, 53, 54, 55] [(49, 1), (49, 2), (49, 3), (49, 6), (49, 8), (49, 9), (50, 2), (50, 3), (50, 4)] q q_17 := by rw [eq_17]; exact hFq_14.f (by decide)
  refine dOk_L (fun q_21 eq_21 => ?_)
  have f_22 : 0 ≤ Int32.toInt (q_17.1 1 6) ∧ Int32.toInt (q_17.1 1 6) ≤ 6 := rg_1_6 hTq_17
  have f_23 : 0 ≤ Int32.toInt (q_14.1 1 6) ∧ Int32.toInt (q_14.1 1 6) ≤ 6 := rg_1_6 hTq_14
  have f_24 : 0 ≤ Int32.toInt (q_10.1 1 6) ∧ Int32.toInt (q_10.1 1 6) ≤ 6 := rg_1_6 hTq_10
  have f_25 : 0 ≤ Int32.toInt (q_6.1 1 6) ∧ Int32.toInt (q_6.1 1 6) ≤ 6 := rg_1_6 i_8
  have f_26 : 0 ≤ Int32.toInt (q.1 1 6) ∧ Int32.toInt (q.1 1 6) ≤ 6 := rg_1_6 hT
  have w_27 : Int32.toInt (q_6.1 1 6) = Int32.toInt (q.1 1 6) := by rw [i_9.1 1 6 (by decide) (by decide)]
  have w_28 : Int32.toInt (q_10.1 1 6) = Int32.toInt (q_6.1 1 6) := by rw [eq_10, cui_o (by decide)]
  have w_29 : Int32.toInt (q_14.1 1 6) = Int32.toInt (q_10.1 1 6) := by rw [eq_14, cui_o (by decide)]
  have w_30 : Int32.toInt (q_17.1 1 6) = Int32.toInt (q_14.1 1 6) := by rw [eq_17, cui_o (by decide)]
  have hTq_21 : TC q_21 := by rw [eq_21]; exact st_49_6 hTq_17 (show (0 : Int) ≤ Int32.toInt (q_17.1 1 6) by omega) (show Int32.toInt (q_17.1 1 6) ≤ (6 : Int) by omega)
  have hFq_21 : cFr [51, 52, 53, 54, 55] [(49, 1), (49, 2), (49, 3), (49, 6), (49, 8), (49, 9), (50, 2), (50, 3), (50, 4)] q q_21 := by rw [eq_21]; exact hFq_17.f (by decide)
  unfold zX6_copyFrom_s49_s1_48
  refine dFix_ok (fun (a : dK × Int32) => (TC a.1) ∧ (cFr [53, 54] [] q_21 a.1) ∧ (0 ≤ Int32.toInt a.2) ∧ (Int32.toInt a.2 ≤ 6)) (fun (a : dK × Int32) => (6 - Int32.toInt a.2).toNat) ?_ _ ?_ _ (dF_gt ?_)
  · intro a ha k_32 hk_31
    obtain ⟨q_33, x2_34⟩ := a
    replace ha : (TC q_33) ∧ (cFr [53, 54] [] q_21 q_33) ∧ (0 ≤ Int32.toInt x2_34) ∧ (Int32.toInt x2_34 ≤ 6) := ha
    obtain ⟨a_35, a_36, a_37, a_38⟩ := ha
    show dOk (zX6_copyFrom_s49_s1_48b  (fun q x2 => k_32 (q, x2)) q_33 x2_34) _
    unfold zX6_copyFrom_s49_s1_48b
    have hFq_33 : cFr [51, 52, 53, 54, 55] [(49, 1), (49, 2), (49, 3), (49, 6), (49, 8), (49, 9), (50, 2), (50, 3), (50, 4)] q q_33 := hFq_21.t a_36 (by decide) (by decide)
    refine dOk_le (A := 6) (B := Int32.toInt x2_34) (by decide) rfl (fun c_39 => ?_) (fun c_40 => ?_)
    · refine dOk_L (fun q_41 eq_41 => ?_)
      have f_42 : 0 ≤ Int32.toInt (q_33.1 1 8) ∧ Int32.toInt (q_33.1 1 8) ≤ 6 := rg_1_8 a_35
      have f_43 : 0 ≤ Int32.toInt (q_21.1 1 8) ∧ Int32.toInt (q_21.1 1 8) ≤ 6 := rg_1_8 hTq_21
      have f_44 : 0 ≤ Int32.toInt (q_17.1 1 8) ∧ Int32.toInt (q_17.1 1 8) ≤ 6 := rg_1_8 hTq_17
      have f_45 : 0 ≤ Int32.toInt (q_14.1 1 8) ∧ Int32.toInt (q_14.1 1 8) ≤ 6 := rg_1_8 hTq_14
      have f_46 : 0 ≤ Int32.toInt (q_10.1 1 8) ∧ Int32.toInt (q_10.1 1 8) ≤ 6 := rg_1_8 hTq_10
      have f_47 : 0 ≤ Int32.toInt (q_6.1 1 8) ∧ Int32.toInt (q_6.1 1 8) ≤ 6 := rg_1_8 i_8
      have f_48 : 0 ≤ Int32.toInt (q.1 1 8) ∧ Int32.toInt (q.1 1 8) ≤ 6 := rg_1_8 hT
      have w_49 : Int32.toInt (q_6.1 1 8) = Int32.toInt (q.1 1 8) := by rw [i_9.1 1 8 (by decide) (by decide)]
      have w_50 : Int32.toInt (q_10.1 1 8) = Int32.toInt (q_6.1 1 8) := by rw [eq_10, cui_o (by decide)]
      have w_51 : Int32.toInt (q_14.1 1 8) = Int32.toInt (q_10.1 1 8) := by rw [eq_14, cui_o (by decide)]
      have w_52 : Int32.toInt (q_17.1 1 8) = Int32.toInt (q_14.1 1 8) := by rw [eq_17, cui_o (by decide)]
      have w_53 : Int32.toInt (q_21.1 1 8) = Int32.toInt (q_17.1 1 8) := by rw [eq_21, cui_o (by decide)]
      have w_54 : Int32.toInt (q_33.1 1 8) = Int32.toInt (q_21.1 1 8) := by rw [a_36.1 1 8 (by decide) (by decide)]
      have hTq_41 : TC q_41 := by rw [eq_41]; exact st_49_8 a_35 (show (0 : Int) ≤ Int32.toInt (q_33.1 1 8) by omega) (show Int32.toInt (q_33.1 1 8) ≤ (6 : Int) by omega)
      have hFq_41 : cFr [51, 52, 53, 54, 55] [(49, 1), (49, 2), (49, 3), (49, 6), (49, 8), (49, 9), (50, 2), (50, 3), (50, 4)] q q_41 := by rw [eq_41]; exact hFq_33.f (by decide)
      unfold zX6_copyFrom_s49_s1_94
      refine dFix_ok (fun (a : dK × Int32) => (TC a.1) ∧ (cFr [55] [] q_41 a.1) ∧ (0 ≤ Int32.toInt a.2) ∧ (Int32.toInt a.2 ≤ 6)) (fun (a : dK × Int32) => (6 - Int32.toInt a.2).toNat) ?_ _ ?_ _ (dF_gt ?_)
      · intro a ha k_56 hk_55
        obtain ⟨q_57, x2_58⟩ := a
        replace ha : (TC q_57) ∧ (cFr [55] [] q_41 q_57) ∧ (0 ≤ Int32.toInt x2_58) ∧ (Int32.toInt x2_58 ≤ 6) := ha
        obtain ⟨a_59, a_60, a_61, a_62⟩ := ha
        show dOk (zX6_copyFrom_s49_s1_94b  (fun q x2 => k_56 (q, x2)) q_57 x2_58) _
        unfold zX6_copyFrom_s49_s1_94b
        have hFq_57 : cFr [51, 52, 53, 54, 55] [(49, 1), (49, 2), (49, 3), (49, 6), (49, 8), (49, 9), (50, 2), (50, 3), (50, 4)] q q_57 := hFq_41.t a_60 (by decide) (by decide)
        refine dOk_le (A := 6) (B := Int32.toInt x2_58) (by decide) rfl (fun c_63 => ?_) (fun c_64 => ?_)
        · refine dOk_L (fun q_65 eq_65 => ?_)
          have w_66 : Int32.toInt (q_6.1 1 9) = Int32.toInt (q.1 1 9) := by rw [i_9.1 1 9 (by decide) (by decide)]
          have w_67 : Int32.toInt (q_10.1 1 9) = Int32.toInt (q_6.1 1 9) := by rw [eq_10, cui_o (by decide)]
          have w_68 : Int32.toInt (q_14.1 1 9) = Int32.toInt (q_10.1 1 9) := by rw [eq_14, cui_o (by decide)]
          have w_69 : Int32.toInt (q_17.1 1 9) = Int32.toInt (q_14.1 1 9) := by rw [eq_17, cui_o (by decide)]
          have w_70 : Int32.toInt (q_21.1 1 9) = Int32.toInt (q_17.1 1 9) := by rw [eq_21, cui_o (by decide)]
          have w_71 : Int32.toInt (q_33.1 1 9) = Int32.toInt (q_21.1 1 9) := by rw [a_36.1 1 9 (by decide) (by decide)]
          have w_72 : Int32.toInt (q_41.1 1 9) = Int32.toInt (q_33.1 1 9) := by rw [eq_41, cui_o (by decide)]
          have w_73 : Int32.toInt (q_57.1 1 9) = Int32.toInt (q_41.1 1 9) := by rw [a_60.1 1 9 (by decide) (by decide)]
          have hTq_65 : TC q_65 := by rw [eq_65]; exact sa_49_9 a_59
          have hFq_65 : cFr [51, 52, 53, 54, 55] [(49, 1), (49, 2), (49, 3), (49, 6), (49, 8), (49, 9), (50, 2), (50, 3), (50, 4)] q q_65 := by rw [eq_65]; exact hFq_57.f (by decide)
          have f_74 : 0 ≤ Int32.toInt (q_65.1 49 6) ∧ Int32.toInt (q_65.1 49 6) ≤ 6 := rg_49_6 hTq_65
          have f_75 : 0 ≤ Int32.toInt (q_57.1 49 6) ∧ Int32.toInt (q_57.1 49 6) ≤ 6 := rg_49_6 a_59
          have f_76 : 0 ≤ Int32.toInt (q_41.1 49 6) ∧ Int32.toInt (q_41.1 49 6) ≤ 6 := rg_49_6 hTq_41
          have f_77 : 0 ≤ Int32.toInt (q_33.1 49 6) ∧ Int32.toInt (q_33.1 49 6) ≤ 6 := rg_49_6 a_35
          have f_78 : 0 ≤ Int32.toInt (q_21.1 49 6) ∧ Int32.toInt (q_21.1 49 6) ≤ 6 := rg_49_6 hTq_21
          have w_79 : Int32.toInt (q_21.1 49 6) = Int32.toInt (q_17.1 1 6) := by rw [eq_21, cui_e]
          have w_80 : Int32.toInt (q_33.1 49 6) = Int32.toInt (q_21.1 49 6) := by rw [a_36.1 49 6 (by decide) (by decide)]
          have w_81 : Int32.toInt (q_41.1 49 6) = Int32.toInt (q_33.1 49 6) := by rw [eq_41, cui_n (by decide)]
          have w_82 : Int32.toInt (q_57.1 49 6) = Int32.toInt (q_41.1 49 6) := by rw [a_60.1 49 6 (by decide) (by decide)]
          have w_83 : Int32.toInt (q_65.1 49 6) = Int32.toInt (q_57.1 49 6) := by rw [eq_65, cui_n (by decide)]
          have f_84 : 0 ≤ Int32.toInt (q_65.1 49 1) ∧ Int32.toInt (q_65.1 49 1) ≤ 10 := rg_49_1 hTq_65
          have f_85 : 0 ≤ Int32.toInt (q_57.1 49 1) ∧ Int32.toInt (q_57.1 49 1) ≤ 10 := rg_49_1 a_59
          have f_86 : 0 ≤ Int32.toInt (q_41.1 49 1) ∧ Int32.toInt (q_41.1 49 1) ≤ 10 := rg_49_1 hTq_41
          have f_87 : 0 ≤ Int32.toInt (q_33.1 49 1) ∧ Int32.toInt (q_33.1 49 1) ≤ 10 := rg_49_1 a_35
          have f_88 : 0 ≤ Int32.toInt (q_21.1 49 1) ∧ Int32.toInt (q_21.1 49 1) ≤ 10 := rg_49_1 hTq_21
          have f_89 : 0 ≤ Int32.toInt (q_17.1 49 1) ∧ Int32.toInt (q_17.1 49 1) ≤ 10 := rg_49_1 hTq_17
          have f_90 : 0 ≤ Int32.toInt (q_14.1 49 1) ∧ Int32.toInt (q_14.1 49 1) ≤ 10 := rg_49_1 hTq_14
          have f_91 : 0 ≤ Int32.toInt (q_10.1 49 1) ∧ Int32.toInt (q_10.1 49 1) ≤ 10 := rg_49_1 hTq_10
          have w_92 : Int32.toInt (q_10.1 49 1) = Int32.toInt (q_6.1 1 1) := by rw [eq_10, cui_e]
          have w_93 : Int32.toInt (q_14.1 49 1) = Int32.toInt (q_10.1 49 1) := by rw [eq_14, cui_n (by decide)]
          have w_94 : Int32.toInt (q_17.1 49 1) = Int32.toInt (q_14.1 49 1) := by rw [eq_17, cui_n (by decide)]
          have w_95 : Int32.toInt (q_21.1 49 1) = Int32.toInt (q_17.1 49 1) := by rw [eq_21, cui_n (by decide)]
          have w_96 : Int32.toInt (q_33.1 49 1) = Int32.toInt (q_21.1 49 1) := by rw [a_36.1 49 1 (by decide) (by decide)]
          have w_97 : Int32.toInt (q_41.1 49 1) = Int32.toInt (q_33.1 49 1) := by rw [eq_41, cui_n (by decide)]
          have w_98 : Int32.toInt (q_57.1 49 1) = Int32.toInt (q_41.1 49 1) := by rw [a_60.1 49 1 (by decide) (by decide)]
          have w_99 : Int32.toInt (q_65.1 49 1) = Int32.toInt (q_57.1 49 1) := by rw [eq_65, cui_n (by decide)]
          exact dOk_some (show (TC q_65) ∧ (cFr [51, 52, 53, 54, 55] [(49, 1), (49, 2), (49, 3), (49, 6), (49, 8), (49, 9), (50, 2), (50, 3), (50, 4)] q q_65) ∧ (Int32.toInt (q_65.1 49 6) = Int32.toInt (q.1 1 6)) ∧ (Int32.toInt (q_65.1 49 1) = Int32.toInt (q.1 1 1)) from ⟨hTq_65, hFq_65, by omega, by omega⟩)
        · refine dOk_G (dg_ok (show 0 ≤ Int32.toInt x2_58 by omega) (show Int32.toInt x2_58 < ((6 : Nat) : Int) by omega)) ?_
          have n_100 : ((Int32.toNatClampNeg x2_58 : Nat) : Int) = Int32.toInt x2_58 := cl_eq (by omega)
          refine dOk_L (fun v_101 ev_101 => ?_)
          have f_102 : 0 ≤ Int32.toInt v_101 ∧ Int32.toInt v_101 ≤ 2147483647 := by rw [ev_101]; exact rg_7 a_59 _
          have f_103 : Int32.toInt v_101 ≤ (q_57.2.2.length : Int) := by rw [ev_101]; exact (a_59.2.1.2 _).1
          refine dOk_G (dg_ok (show 0 ≤ Int32.toInt x2_58 by omega) (show Int32.toInt x2_58 < ((6 : Nat) : Int) by omega)) ?_
          refine dOk_eq (A := Int32.toInt v_101) (B := 0) rfl (by decide) (fun c_104z c_104 => ?_) (fun c_105z c_105 => ?_)
          · refine dOk_L (fun q_107 eq_107 => ?_)
            have n_108 : q_6.2.2.length = q.2.2.length := (congrArg List.length i_9.2)
            have n_109 : q_10.2.2.length = q_6.2.2.length := (by rw [eq_10]; rfl)
            have n_110 : q_14.2.2.length = q_10.2.2.length := (by rw [eq_14]; rfl)
            have n_111 : q_17.2.2.length = q_14.2.2.length := (by rw [eq_17]; rfl)
            have n_112 : q_21.2.2.length = q_17.2.2.length := (by rw [eq_21]; rfl)
            have n_113 : q_33.2.2.length = q_21.2.2.length := (congrArg List.length a_36.2)
            have n_114 : q_41.2.2.length = q_33.2.2.length := (by rw [eq_41]; rfl)
            have n_115 : q_57.2.2.length = q_41.2.2.length := (congrArg List.length a_60.2)
            have hTq_107 : TC q_107 := by rw [eq_107]; exact tc_law a_59 (by omega) (show 0 ≤ (0 : Int) by omega) (show (0 : Int) ≤ (q_57.2.2.length : Int) by omega)
            have hFq_107 : cFr [51, 52, 53, 54, 55] [(49, 1), (49, 2), (49, 3), (49, 6), (49, 8), (49, 9), (50, 2), (50, 3), (50, 4)] q q_107 := by rw [eq_107]; exact hFq_57.i (by decide)
            try have t_116 : Int32.toInt (x2_58 + 1) = Int32.toInt x2_58 + 1 := ti_add rfl (by decide) (by omega) (by omega)
            exact hk_55 (q_107, (x2_58 + 1)) (show (TC q_107) ∧ (cFr [55] [] q_41 q_107) ∧ (0 ≤ Int32.toInt (x2_58 + 1)) ∧ (Int32.toInt (x2_58 + 1) ≤ 6) from ⟨hTq_107, (by rw [eq_107]; exact (((cFr.rf : cFr [55] [] q_41 q_41).t a_60 (by decide) (by decide)) : cFr [55] [] q_41 q_57).i (by decide)), by omega, by omega⟩) (show (6 - Int32.toInt (x2_58 + 1)).toNat < (6 - Int32.toInt x2_58).toNat by omega)
          · have n_117 : q_6.2.2.length = q.2.2.length := (congrArg List.length i_9.2)
            have n_118 : q_10.2.2.length = q_6.2.2.length := (by rw [eq_10]; rfl)
            have n_119 : q_14.2.2.length = q_10.2.2.length := (by rw [eq_14]; rfl)
            have n_120 : q_17.2.2.length = q_14.2.2.length := (by rw [eq_17]; rfl)
            have n_121 : q_21.2.2.length = q_17.2.2.length := (by rw [eq_21]; rfl)
            have n_122 : q_33.2.2.length = q_21.2.2.length := (congrArg List.length a_36.2)
            have n_123 : q_41.2.2.length = q_33.2.2.length := (by rw [eq_41]; rfl)
            have n_124 : q_57.2.2.length = q_41.2.2.length := (congrArg List.length a_60.2)
            have g_125 : dlg q_57 v_101 = true := tc_dlg a_59 (show ¬ Int32.toInt v_101 = 0 by omega) (show 0 ≤ Int32.toInt v_101 by omega) (show Int32.toInt v_101 ≤ (q_57.2.2.length : Int) by omega)
            refine dOk_G g_125 ?_
            refine dOk_L (fun q_126 eq_126 => ?_)
            have hTq_126 : TC q_126 := by rw [eq_126]; exact tc_law a_59 (by omega) (show 0 ≤ Int32.toInt v_101 by omega) (show Int32.toInt v_101 ≤ (q_57.2.2.length : Int) by omega)
            have hFq_126 : cFr [51, 52, 53, 54, 55] [(49, 1), (49, 2), (49, 3), (49, 6), (49, 8), (49, 9), (50, 2), (50, 3), (50, 4)] q q_126 := by rw [eq_126]; exact hFq_57.i (by decide)
            try have t_127 : Int32.toInt (x2_58 + 1) = Int32.toInt x2_58 + 1 := ti_add rfl (by decide) (by omega) (by omega)
            exact hk_55 (q_126, (x2_58 + 1)) (show (TC q_126) ∧ (cFr [55] [] q_41 q_126) ∧ (0 ≤ Int32.toInt (x2_58 + 1)) ∧ (Int32.toInt (x2_58 + 1) ≤ 6) from ⟨hTq_126, (by rw [eq_126]; exact (((cFr.rf : cFr [55] [] q_41 q_41).t a_60 (by decide) (by decide)) : cFr [55] [] q_41 q_57).i (by decide)), by omega, by omega⟩) (show (6 - Int32.toInt (x2_58 + 1)).toNat < (6 - Int32.toInt x2_58).toNat by omega)
      · exact (show (TC q_41) ∧ (cFr [55] [] q_41 q_41) ∧ (0 ≤ (0 : Int)) ∧ ((0 : Int) ≤ 6) from ⟨hTq_41, cFr.rf, by omega, by omega⟩)
      · show (6 - (0 : Int)).toNat < 1000000000000
        omega
    · refine dOk_G (dg_ok (show 0 ≤ Int32.toInt x2_34 by omega) (show Int32.toInt x2_34 < ((6 : Nat) : Int) by omega)) ?_
      have n_128 : ((Int32.toNatClampNeg x2_34 : Nat) : Int) = Int32.toInt x2_34 := cl_eq (by omega)
      refine dOk_L (fun v_129 ev_129 => ?_)
      refine dOk_G (dg_ok (show 0 ≤ Int32.toInt x2_34 by omega) (show Int32.toInt x2_34 < ((6 : Nat) : Int) by omega)) ?_
      refine dOk_L (fun q_130 eq_130 => ?_)
      have hTq_130 : TC q_130 := by rw [eq_130]; exact sa_53 a_35
      have hFq_130 : cFr [51, 52, 53, 54, 55] [(49, 1), (49, 2), (49, 3), (49, 6), (49, 8), (49, 9), (50, 2), (50, 3), (50, 4)] q q_130 := by rw [eq_130]; exact hFq_33.i (by decide)
      refine dOk_G (dg_ok (show 0 ≤ Int32.toInt x2_34 by omega) (show Int32.toInt x2_34 < ((6 : Nat) : Int) by omega)) ?_
      refine dOk_L (fun v_131 ev_131 => ?_)
      refine dOk_G (dg_ok (show 0 ≤ Int32.toInt x2_34 by omega) (show Int32.toInt x2_34 < ((6 : Nat) : Int) by omega)) ?_
      refine dOk_L (fun q_132 eq_132 => ?_)
      have hTq_132 : TC q_132 := by rw [eq_132]; exact sa_54 hTq_130
      have hFq_132 : cFr [51, 52, 53, 54, 55] [(49, 1), (49, 2), (49, 3), (49, 6), (49, 8), (49, 9), (50, 2), (50, 3), (50, 4)] q q_132 := by rw [eq_132]; exact hFq_130.i (by decide)
      try have t_133 : Int32.toInt (x2_34 + 1) = Int32.toInt x2_34 + 1 := ti_add rfl (by decide) (by omega) (by omega)
      exact hk_31 (q_132, (x2_34 + 1)) (show (TC q_132) ∧ (cFr [53, 54] [] q_21 q_132) ∧ (0 ≤ Int32.toInt (x2_34 + 1)) ∧ (Int32.toInt (x2_34 + 1) ≤ 6) from ⟨hTq_132, (by rw [eq_132]; exact ((by rw [eq_130]; exact (((cFr.rf : cFr [53, 54] [] q_21 q_21).t a_36 (by decide) (by decide)) : cFr [53, 54] [] q_21 q_33).i (by decide)) : cFr [53, 54] [] q_21 q_130).i (by decide)), by omega, by omega⟩) (show (6 - Int32.toInt (x2_34 + 1)).toNat < (6 - Int32.toInt x2_34).toNat by omega)
  · exact (show (TC q_21) ∧ (cFr [53, 54] [] q_21 q_21) ∧ (0 ≤ (0 : Int)) ∧ ((0 : Int) ≤ 6) from ⟨hTq_21, cFr.rf, by omega, by omega⟩)
  · show (6 - (0 : Int)).toNat < 1000000000000
    omega
end
