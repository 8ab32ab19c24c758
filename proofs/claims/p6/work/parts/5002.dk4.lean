/-! rows over the class's world -/
def dTx (q : dK) (c : Int32) : dT := match q.2.2[dLi c]? with
  | some t => t
  | none => (0, 0, 0, 0, fun _ _ => 0)
def dlg (q : dK) (c : Int32) : Bool := decide (¬ c = 0 ∧ dLi c < q.2.2.length)
theorem dlg_ne {q : dK} {c : Int32} (h : dlg q c = true) : ¬ c = 0 := (of_decide_eq_true h : ¬ c = 0 ∧ dLi c < q.2.2.length).1
theorem dTx_get {q : dK} {c : Int32} (h : dlg q c = true) : q.2.2[dLi c]? = some (dTx q c) := by
  have h2 : ¬ c = 0 ∧ dLi c < q.2.2.length := of_decide_eq_true h
  unfold dTx
  cases e : q.2.2[dLi c]? with
  | none => exact absurd (List.getElem?_eq_none_iff.mp e) (by omega)
  | some t => rfl
theorem dg_lt {i : Int32} {n : Nat} (h : dg i n = true) : Int32.toNatClampNeg i < n := by
  have h2 : ¬ (i < 0 ∨ n ≤ i.toNatClampNeg) := dg_in h
  exact Nat.not_le.mp (fun z => h2 (Or.inr z))
theorem dLs_rf {ad : Nat → Nat} {f : Nat → Int32} {i : Nat} (hi : i < 6) : va_rf (dLs ad f i) = dLw ad (f i) := by
  unfold dLs dLw
  rw [if_pos hi]
  by_cases c : f i = 0
  · rw [if_pos c, if_pos c]; rfl
  · rw [if_neg c, if_neg c]; rfl
theorem dLs_up0 {ad : Nat → Nat} {f : Nat → Int32} {k : Nat} (hk : k < 6) : va_up (dLs ad f) k none = dLs ad (upd f k 0) := by
  funext i
  show (if i = k then none else dLs ad f i) = (if i < 6 then (if (if i = k then (0 : Int32) else f i) = 0 then none else some (ad (63 + 7 * dLi (if i = k then (0 : Int32) else f i)))) else none)
  by_cases c : i = k
  · rw [if_pos c, if_pos c, if_pos rfl, if_pos (by omega)]
  · rw [if_neg c, if_neg c]; rfl
theorem dLs_up {ad : Nat → Nat} {f : Nat → Int32} {k : Nat} {c : Int32} (hk : k < 6) (h : ¬ c = 0) : va_up (dLs ad f) k (some (ad (63 + 7 * dLi c))) = dLs ad (upd f k c) := by
  funext i
  show (if i = k then some (ad (63 + 7 * dLi c)) else dLs ad f i) = (if i < 6 then (if (if i = k then c else f i) = 0 then none else some (ad (63 + 7 * dLi (if i = k then c else f i)))) else none)
  by_cases c1 : i = k
  · rw [if_pos c1, if_pos c1, if_neg h, if_pos (by omega)]
  · rw [if_neg c1, if_neg c1]; rfl
/-! new rows of the paper: their addresses -/
def adu (ad : Nat → Nat) (j a : Nat) : Nat → Nat := fun i => if i = j then a else ad i
def dAg (ad ad' : Nat → Nat) : Prop := ∀ j : Nat, (j < 39 ∨ 46 ≤ j) → ad' j = ad j
theorem dAg_u {ad : Nat → Nat} {j a : Nat} (h : 39 ≤ j ∧ j < 46) : dAg ad (adu ad j a) := fun i hi => if_neg (by omega)
theorem dAg_t {ad ad1 ad2 : Nat → Nat} (h : dAg ad ad1) (h2 : dAg ad1 ad2) : dAg ad ad2 := fun i hi => (h2 i hi).trans (h i hi)
theorem dAg_s {ad ad1 : Nat → Nat} (h : dAg ad ad1) (j : Nat) (hj : (decide (j < 39) || decide (46 ≤ j)) = true) : ad j = ad1 j := by
  rw [Bool.or_eq_true, decide_eq_true_eq, decide_eq_true_eq] at hj
  exact (h j hj).symm
theorem dLw_e {ad ad' : Nat → Nat} (h : ∀ i : Nat, 63 ≤ i → ad' i = ad i) : dLw ad' = dLw ad := by
  funext c
  unfold dLw
  rw [h _ (by omega)]
theorem dLs_e {ad ad' : Nat → Nat} (h : ∀ i : Nat, 63 ≤ i → ad' i = ad i) : dLs ad' = dLs ad := by
  funext f i
  unfold dLs
  rw [h _ (by omega)]
theorem lwC_e {ty : Nat → ClassId} {ad ad' : Nat → Nat} (h : ∀ i : Nat, 63 ≤ i → ad' i = ad i) (i : Nat) (t : dT) : lwC ty ad' i t = lwC ty ad i t := by
  unfold lwC
  rw [h (63 + 7 * i) (by omega), h (63 + 7 * i + 1) (by omega), h (63 + 7 * i + 2) (by omega), h (63 + 7 * i + 3) (by omega), h (63 + 7 * i + 4) (by omega), h (63 + 7 * i + 5) (by omega), h (63 + 7 * i + 6) (by omega)]
theorem lwT_e {ty : Nat → ClassId} {ad ad' : Nat → Nat} (h : ∀ i : Nat, 63 ≤ i → ad' i = ad i) : ∀ (ts : List dT) (i : Nat), lwT ty ad' i ts = lwT ty ad i ts := by
  intro ts
  induction ts with
  | nil => intro i; rfl
  | cons t ts ih =>
    intro i
    show lwC ty ad' i t ++ lwT ty ad' (i + 1) ts = lwC ty ad i t ++ lwT ty ad (i + 1) ts
    rw [lwC_e h, ih]
theorem wF_len (ty : Nat → ClassId) (ad : Nat → Nat) (q : dK) : 63 ≤ (wF ty ad q).length := by
  show 63 ≤ (wFx ty ad q ++ lwT ty ad 0 q.2.2).length
  rw [List.length_append]
  exact Nat.le_add_right _ _
theorem wF_n39 (ty : Nat → ClassId) (ad : Nat → Nat) (q : dK) (a : Nat) (n : Int32) : ((wF ty ad q).set 32 (ad 32, .inr (3, [.ref (ad 33), .ref (ad 34), .ref (ad 35), .ref (ad 36), .ref (ad 37), .ref (ad 38), .ref a, .ref (ad 40), .ref (ad 41), .ref (ad 42), .ref (ad 43), .ref (ad 44), .ref (ad 45), .int (q.1 32 13), .int (q.1 32 14), .int (q.1 32 15), .int (q.1 32 16), .int (q.1 32 17), .int (q.1 32 18), .int (q.1 32 19)]))).set 39 (a, .inl (ty 0, Int32.toNatClampNeg n, .inl (fun _ => 0))) = wF ty (adu ad 39 a) (cnw q 39 100 n) := by
  have h : ∀ i : Nat, 63 ≤ i → adu ad 39 a i = ad i := fun i hi => if_neg (by omega)
  unfold wF
  rw [show (cnw q 39 100 n).2.2 = q.2.2 from rfl, lwT_e h, dLw_e h, dLs_e h]
  rfl
theorem wF_n40 (ty : Nat → ClassId) (ad : Nat → Nat) (q : dK) (a : Nat) (n : Int32) : ((wF ty ad q).set 32 (ad 32, .inr (3, [.ref (ad 33), .ref (ad 34), .ref (ad 35), .ref (ad 36), .ref (ad 37), .ref (ad 38), .ref (ad 39), .ref a, .ref (ad 41), .ref (ad 42), .ref (ad 43), .ref (ad 44), .ref (ad 45), .int (q.1 32 13), .int (q.1 32 14), .int (q.1 32 15), .int (q.1 32 16), .int (q.1 32 17), .int (q.1 32 18), .int (q.1 32 19)]))).set 40 (a, .inl (ty 0, Int32.toNatClampNeg n, .inl (fun _ => 0))) = wF ty (adu ad 40 a) (cnw q 40 101 n) := by
  have h : ∀ i : Nat, 63 ≤ i → adu ad 40 a i = ad i := fun i hi => if_neg (by omega)
  unfold wF
  rw [show (cnw q 40 101 n).2.2 = q.2.2 from rfl, lwT_e h, dLw_e h, dLs_e h]
  rfl
theorem wF_n41 (ty : Nat → ClassId) (ad : Nat → Nat) (q : dK) (a : Nat) (n : Int32) : ((wF ty ad q).set 32 (ad 32, .inr (3, [.ref (ad 33), .ref (ad 34), .ref (ad 35), .ref (ad 36), .ref (ad 37), .ref (ad 38), .ref (ad 39), .ref (ad 40), .ref a, .ref (ad 42), .ref (ad 43), .ref (ad 44), .ref (ad 45), .int (q.1 32 13), .int (q.1 32 14), .int (q.1 32 15), .int (q.1 32 16), .int (q.1 32 17), .int (q.1 32 18), .int (q.1 32 19)]))).set 41 (a, .inl (ty 0, Int32.toNatClampNeg n, .inl (fun _ => 0))) = wF ty (adu ad 41 a) (cnw q 41 102 n) := by
  have h : ∀ i : Nat, 63 ≤ i → adu ad 41 a i = ad i := fun i hi => if_neg (by omega)
  unfold wF
  rw [show (cnw q 41 102 n).2.2 = q.2.2 from rfl, lwT_e h, dLw_e h, dLs_e h]
  rfl
theorem wF_n42 (ty : Nat → ClassId) (ad : Nat → Nat) (q : dK) (a : Nat) (n : Int32) : ((wF ty ad q).set 32 (ad 32, .inr (3, [.ref (ad 33), .ref (ad 34), .ref (ad 35), .ref (ad 36), .ref (ad 37), .ref (ad 38), .ref (ad 39), .ref (ad 40), .ref (ad 41), .ref a, .ref (ad 43), .ref (ad 44), .ref (ad 45), .int (q.1 32 13), .int (q.1 32 14), .int (q.1 32 15), .int (q.1 32 16), .int (q.1 32 17), .int (q.1 32 18), .int (q.1 32 19)]))).set 42 (a, .inl (ty 0, Int32.toNatClampNeg n, .inl (fun _ => 0))) = wF ty (adu ad 42 a) (cnw q 42 103 n) := by
  have h : ∀ i : Nat, 63 ≤ i → adu ad 42 a i = ad i := fun i hi => if_neg (by omega)
  unfold wF
  rw [show (cnw q 42 103 n).2.2 = q.2.2 from rfl, lwT_e h, dLw_e h, dLs_e h]
  rfl
theorem wF_n43 (ty : Nat → ClassId) (ad : Nat → Nat) (q : dK) (a : Nat) (n : Int32) : ((wF ty ad q).set 32 (ad 32, .inr (3, [.ref (ad 33), .ref (ad 34), .ref (ad 35), .ref (ad 36), .ref (ad 37), .ref (ad 38), .ref (ad 39), .ref (ad 40), .ref (ad 41), .ref (ad 42), .ref a, .ref (ad 44), .ref (ad 45), .int (q.1 32 13), .int (q.1 32 14), .int (q.1 32 15), .int (q.1 32 16), .int (q.1 32 17), .int (q.1 32 18), .int (q.1 32 19)]))).set 43 (a, .inl (ty 0, Int32.toNatClampNeg n, .inl (fun _ => 0))) = wF ty (adu ad 43 a) (cnw q 43 104 n) := by
  have h : ∀ i : Nat, 63 ≤ i → adu ad 43 a i = ad i := fun i hi => if_neg (by omega)
  unfold wF
  rw [show (cnw q 43 104 n).2.2 = q.2.2 from rfl, lwT_e h, dLw_e h, dLs_e h]
  rfl
theorem wF_n44 (ty : Nat → ClassId) (ad : Nat → Nat) (q : dK) (a : Nat) (n : Int32) : ((wF ty ad q).set 32 (ad 32, .inr (3, [.ref (ad 33), .ref (ad 34), .ref (ad 35), .ref (ad 36), .ref (ad 37), .ref (ad 38), .ref (ad 39), .ref (ad 40), .ref (ad 41), .ref (ad 42), .ref (ad 43), .ref a, .ref (ad 45), .int (q.1 32 13), .int (q.1 32 14), .int (q.1 32 15), .int (q.1 32 16), .int (q.1 32 17), .int (q.1 32 18), .int (q.1 32 19)]))).set 44 (a, .inl (ty 0, Int32.toNatClampNeg n, .inl (fun _ => 0))) = wF ty (adu ad 44 a) (cnw q 44 105 n) := by
  have h : ∀ i : Nat, 63 ≤ i → adu ad 44 a i = ad i := fun i hi => if_neg (by omega)
  unfold wF
  rw [show (cnw q 44 105 n).2.2 = q.2.2 from rfl, lwT_e h, dLw_e h, dLs_e h]
  rfl
theorem wF_n45 (ty : Nat → ClassId) (ad : Nat → Nat) (q : dK) (a : Nat) (n : Int32) : ((wF ty ad q).set 32 (ad 32, .inr (3, [.ref (ad 33), .ref (ad 34), .ref (ad 35), .ref (ad 36), .ref (ad 37), .ref (ad 38), .ref (ad 39), .ref (ad 40), .ref (ad 41), .ref (ad 42), .ref (ad 43), .ref (ad 44), .ref a, .int (q.1 32 13), .int (q.1 32 14), .int (q.1 32 15), .int (q.1 32 16), .int (q.1 32 17), .int (q.1 32 18), .int (q.1 32 19)]))).set 45 (a, .inl (ty 0, Int32.toNatClampNeg n, .inl (fun _ => 0))) = wF ty (adu ad 45 a) (cnw q 45 106 n) := by
  have h : ∀ i : Nat, 63 ≤ i → adu ad 45 a i = ad i := fun i hi => if_neg (by omega)
  unfold wF
  rw [show (cnw q 45 106 n).2.2 = q.2.2 from rfl, lwT_e h, dLw_e h, dLs_e h]
  rfl
theorem dw_newG {ws : va_W} {i j a : Nat} {o : Nat × va_E} {x : va_E} (hi : i < ws.length) (hj : j < ws.length) (hij : ¬ i = j) (k : Nat) (q : Nat × va_E) (hk : ((ws.set i o).set j (a, x))[k]? = some q) : ((ws ++ [(a, x)]).set i o)[if k = j then ws.length else k]? = some q := by
  by_cases c : k = j
  · rw [if_pos c]
    rw [c, List.getElem?_set_self (by rw [List.length_set]; exact hj)] at hk
    rw [List.getElem?_set_ne (by omega), List.getElem?_append_right (Nat.le_refl _), Nat.sub_self]
    exact hk
  · rw [if_neg c]
    rw [List.getElem?_set_ne (fun z => c z.symm)] at hk
    by_cases c2 : k = i
    · rw [c2, List.getElem?_set_self hi] at hk
      rw [c2, List.getElem?_set_self (by rw [List.length_append]; omega)]
      exact hk
    · rw [List.getElem?_set_ne (fun z => c2 z.symm)] at hk
      have hlt : k < ws.length := (List.getElem?_eq_some_iff.mp hk).1
      rw [List.getElem?_set_ne (fun z => c2 z.symm), List.getElem?_append_left hlt]
      exact hk
theorem dw_newP {D : va_G} {cl : List vw_C} {H : Heap} {ws : va_W} {i j a : Nat} {o : Nat × va_E} {x : va_E} (hi : i < ws.length) (hj : j < ws.length) (hij : ¬ i = j) (h : va_P D cl ((ws ++ [(a, x)]).set i o) H) : va_P D cl ((ws.set i o).set j (a, x)) H := h.by _ (dw_newG hi hj hij)
theorem dw_newD {A : Nat → Prop} {ws : va_W} {i j a : Nat} {o : Nat × va_E} {x : va_E} (hi : i < ws.length) (hj : j < ws.length) (hij : ¬ i = j) (h : va_D A ((ws ++ [(a, x)]).set i o)) : va_D A ((ws.set i o).set j (a, x)) := by
  refine h.by _ (dw_newG hi hj hij) (fun m n hm hn e => ?_)
  rw [List.length_set, List.length_set] at hm hn
  by_cases c1 : m = j
  · by_cases c2 : n = j
    · omega
    · rw [if_pos c1, if_neg c2] at e; omega
  · by_cases c2 : n = j
    · rw [if_neg c1, if_pos c2] at e; omega
    · rw [if_neg c1, if_neg c2] at e; exact e
theorem dLw_or (ad : Nat → Nat) (c : Int32) : dLw ad c = .null ∨ ∃ a : Nat, dLw ad c = .ref a := by
  unfold dLw
  by_cases h : c = 0
  · rw [if_pos h]; exact Or.inl rfl
  · rw [if_neg h]; exact Or.inr ⟨_, rfl⟩
theorem lwT_get {ty : Nat → ClassId} {ad : Nat → Nat} : ∀ (ts : List dT) (i k j : Nat) (t : dT), ts[k]? = some t → j < 7 → (lwT ty ad i ts)[7 * k + j]? = (lwC ty ad (i + k) t)[j]? := by
  intro ts
  induction ts with
  | nil => intro i k j t h; cases h
  | cons x xs ih =>
    intro i k j t h hj
    show (lwC ty ad i x ++ lwT ty ad (i + 1) xs)[7 * k + j]? = _
    cases k with
    | zero =>
      have ext : x = t := Option.some.inj h
      rw [← ext, List.getElem?_append_left (show 7 * 0 + j < (lwC ty ad i x).length from (by show 7 * 0 + j < 7; omega)), Nat.mul_zero, Nat.zero_add, Nat.add_zero]
    | succ k =>
      rw [List.getElem?_append_right (show (lwC ty ad i x).length ≤ 7 * (k + 1) + j from (by show 7 ≤ 7 * (k + 1) + j; omega))]
      rw [show 7 * (k + 1) + j - (lwC ty ad i x).length = 7 * k + j from (by show 7 * (k + 1) + j - 7 = _; omega), ih (i + 1) k j t h hj, show i + 1 + k = i + (k + 1) by omega]
theorem wF_app (ty : Nat → ClassId) (ad : Nat → Nat) (q : dK) : wF ty ad q = wFx ty ad q ++ lwT ty ad 0 q.2.2 := rfl
theorem lw_at {ty : Nat → ClassId} {ad : Nat → Nat} {q : dK} {c : Int32} (h : dlg q c = true) (j : Nat) (hj : j < 7) : (wF ty ad q)[63 + 7 * dLi c + j]? = (lwC ty ad (dLi c) (dTx q c))[j]? := by
  rw [wF_app, List.getElem?_append_right (show (wFx ty ad q).length ≤ 63 + 7 * dLi c + j from (by show 63 ≤ 63 + 7 * dLi c + j; omega))]
  rw [show 63 + 7 * dLi c + j - (wFx ty ad q).length = 7 * dLi c + j from (by show 63 + 7 * dLi c + j - 63 = _; omega), lwT_get q.2.2 0 (dLi c) j (dTx q c) (dTx_get h) hj, Nat.zero_add]
theorem lw_o {ty : Nat → ClassId} {ad : Nat → Nat} {q : dK} {c : Int32} (h : dlg q c = true) : (wF ty ad q)[63 + 7 * dLi c]? = some (ad (63 + 7 * dLi c), .inr (7, [.ref (ad (63 + 7 * dLi c + 1)), .ref (ad (63 + 7 * dLi c + 2)), .ref (ad (63 + 7 * dLi c + 3)), .ref (ad (63 + 7 * dLi c + 4)), .ref (ad (63 + 7 * dLi c + 5)), .ref (ad (63 + 7 * dLi c + 6)), .int (dTx q c).1, .int (dTx q c).2.1])) := (lw_at h 0 (by decide)).trans rfl
theorem lw_a1 {ty : Nat → ClassId} {ad : Nat → Nat} {q : dK} {c : Int32} (h : dlg q c = true) : (wF ty ad q)[63 + 7 * dLi c + 1]? = some (ad (63 + 7 * dLi c + 1), .inl (ty 0, Int32.toNatClampNeg (dTx q c).2.2.1, .inl ((dTx q c).2.2.2.2 0))) := (lw_at h 1 (by decide)).trans rfl
theorem lw_a2 {ty : Nat → ClassId} {ad : Nat → Nat} {q : dK} {c : Int32} (h : dlg q c = true) : (wF ty ad q)[63 + 7 * dLi c + 2]? = some (ad (63 + 7 * dLi c + 2), .inl (ty 0, Int32.toNatClampNeg (dTx q c).2.2.1, .inl ((dTx q c).2.2.2.2 1))) := (lw_at h 2 (by decide)).trans rfl
theorem lw_a3 {ty : Nat → ClassId} {ad : Nat → Nat} {q : dK} {c : Int32} (h : dlg q c = true) : (wF ty ad q)[63 + 7 * dLi c + 3]? = some (ad (63 + 7 * dLi c + 3), .inl (ty 0, Int32.toNatClampNeg (dTx q c).2.2.1, .inl ((dTx q c).2.2.2.2 2))) := (lw_at h 3 (by decide)).trans rfl
theorem lw_a4 {ty : Nat → ClassId} {ad : Nat → Nat} {q : dK} {c : Int32} (h : dlg q c = true) : (wF ty ad q)[63 + 7 * dLi c + 4]? = some (ad (63 + 7 * dLi c + 4), .inl (ty 0, Int32.toNatClampNeg (dTx q c).2.2.1, .inl ((dTx q c).2.2.2.2 3))) := (lw_at h 4 (by decide)).trans rfl
theorem lw_a5 {ty : Nat → ClassId} {ad : Nat → Nat} {q : dK} {c : Int32} (h : dlg q c = true) : (wF ty ad q)[63 + 7 * dLi c + 5]? = some (ad (63 + 7 * dLi c + 5), .inl (ty 0, Int32.toNatClampNeg (dTx q c).2.2.1, .inl ((dTx q c).2.2.2.2 4))) := (lw_at h 5 (by decide)).trans rfl
theorem lw_a6 {ty : Nat → ClassId} {ad : Nat → Nat} {q : dK} {c : Int32} (h : dlg q c = true) : (wF ty ad q)[63 + 7 * dLi c + 6]? = some (ad (63 + 7 * dLi c + 6), .inl (ty 0, Int32.toNatClampNeg (dTx q c).2.2.2.1, .inl ((dTx q c).2.2.2.2 5))) := (lw_at h 6 (by decide)).trans rfl
/-! stores into a law's text -/
def ctm (q : dK) (c : Int32) (g : dT → dT) : dK := (q.1, q.2.1, q.2.2.set (dLi c) (g (dTx q c)))
def clf6 (q : dK) (c v : Int32) : dK := ctm q c (fun t => (v, t.2))
def clf7 (q : dK) (c v : Int32) : dK := ctm q c (fun t => (t.1, v, t.2.2))
def cla (q : dK) (c : Int32) (j i : Nat) (v : Int32) : dK := ctm q c (fun t => (t.1, t.2.1, t.2.2.1, t.2.2.2.1, fun a => if a = j then upd (t.2.2.2.2 j) i v else t.2.2.2.2 a))
def clc (q : dK) (c : Int32) (j0 j n : Nat) : dK := ctm q c (fun t => (t.1, t.2.1, t.2.2.1, t.2.2.2.1, fun a => if a = j then va_cpy (q.1 j0) (t.2.2.2.2 j) 0 0 n else t.2.2.2.2 a))
def cln (q : dK) (c k : Int32) : dK := (q.1, q.2.1, q.2.2 ++ [(0, 0, c, k, fun _ _ => 0)])
theorem set_apR {α : Type} : ∀ (s t : List α) (k : Nat) (x : α), (s ++ t).set (s.length + k) x = s ++ t.set k x := by
  intro s
  induction s with
  | nil => intro t k x; show t.set (0 + k) x = t.set k x; rw [Nat.zero_add]
  | cons a s ih =>
    intro t k x
    show (a :: (s ++ t)).set (s.length + 1 + k) x = a :: (s ++ t.set k x)
    rw [show s.length + 1 + k = (s.length + k) + 1 by omega, ← ih t k x]
    rfl
theorem set_apL {α : Type} : ∀ (s t : List α) (k : Nat) (x : α), k < s.length → (s ++ t).set k x = s.set k x ++ t := by
  intro s
  induction s with
  | nil => intro t k x h; exact absurd h (Nat.not_lt_zero k)
  | cons a s ih =>
    intro t k x h
    cases k with
    | zero => rfl
    | succ k =>
      show a :: (s ++ t).set k x = a :: (s.set k x ++ t)
      rw [ih t k x (Nat.lt_of_succ_lt_succ h)]
theorem lwT_set {ty : Nat → ClassId} {ad : Nat → Nat} : ∀ (ts : List dT) (i k j : Nat) (x : Nat × va_E) (t t2 : dT), ts[k]? = some t → j < 7 → (lwC ty ad (i + k) t).set j x = lwC ty ad (i + k) t2 → (lwT ty ad i ts).set (7 * k + j) x = lwT ty ad i (ts.set k t2) := by
  intro ts
  induction ts with
  | nil => intro i k j x t t2 h; cases h
  | cons y ys ih =>
    intro i k j x t t2 h hj hx
    show (lwC ty ad i y ++ lwT ty ad (i + 1) ys).set (7 * k + j) x = _
    cases k with
    | zero =>
      have e : y = t := Option.some.inj h
      rw [Nat.add_zero, ← e] at hx
      rw [set_apL _ _ _ _ (show 7 * 0 + j < (lwC ty ad i y).length from (by show 7 * 0 + j < 7; omega)), show 7 * 0 + j = j by omega, hx]
      rfl
    | succ k =>
      rw [show 7 * (k + 1) + j = (lwC ty ad i y).length + (7 * k + j) from (by show 7 * (k + 1) + j = 7 + (7 * k + j); omega), set_apR, ih (i + 1) k j x t t2 h hj (by rw [show i + 1 + k = i + (k + 1) by omega]; exact hx)]
      rfl
theorem lw_set {ty : Nat → ClassId} {ad : Nat → Nat} {q : dK} {c : Int32} (h : dlg q c = true) (j : Nat) (hj : j < 7) (x : Nat × va_E) (g : dT → dT) (hx : (lwC ty ad (dLi c) (dTx q c)).set j x = lwC ty ad (dLi c) (g (dTx q c))) : (wF ty ad q).set (63 + 7 * dLi c + j) x = wF ty ad (ctm q c g) := by
  show (wFx ty ad q ++ lwT ty ad 0 q.2.2).set (63 + 7 * dLi c + j) x = wFx ty ad q ++ lwT ty ad 0 (q.2.2.set (dLi c) (g (dTx q c)))
  rw [show 63 + 7 * dLi c + j = (wFx ty ad q).length + (7 * dLi c + j) from (by show 63 + 7 * dLi c + j = 63 + (7 * dLi c + j); omega), set_apR, lwT_set q.2.2 0 (dLi c) j x (dTx q c) (g (dTx q c)) (dTx_get h) hj (by rw [Nat.zero_add]; exact hx)]
/-! a new text at the end -/
def cok (q : dK) (c : Int32) : Prop := c = 0 ∨ dLi c < q.2.2.length
def dlok (q : dK) : Prop := q.2.2.length < 1000 ∧ cok q (q.1 20 2) ∧ ∀ i : Nat, i < 6 → cok q (q.1 7 i) ∧ cok q (q.1 55 i) ∧ cok q (q.1 62 i)
noncomputable def dlokB (q : dK) : Bool := @decide (dlok q) (Classical.propDecidable _)
theorem dlokB_e {q : dK} (h : dlokB q = true) : dlok q := @of_decide_eq_true (dlok q) (Classical.propDecidable _) h
theorem dlokB_i {q : dK} (h : dlok q) : dlokB q = true := @decide_eq_true (dlok q) (Classical.propDecidable _) h
def adl (ad : Nat → Nat) (n a0 a1 a2 a3 a4 a5 a6 : Nat) : Nat → Nat := fun j => if j < 63 + 7 * n then ad j else ([a0, a1, a2, a3, a4, a5, a6].getD (j - (63 + 7 * n)) 0)
def dAl (n : Nat) (ad ad' : Nat → Nat) : Prop := ∀ j : Nat, j < 63 + 7 * n → ad' j = ad j
theorem dAl_s {n : Nat} {ad ad1 : Nat → Nat} (h : dAl n ad ad1) (j : Nat) (hj : j < 63) : ad j = ad1 j := (h j (by omega)).symm
theorem lwT_app {ty : Nat → ClassId} {ad : Nat → Nat} : ∀ (ts : List dT) (i : Nat) (t : dT), lwT ty ad i (ts ++ [t]) = lwT ty ad i ts ++ lwC ty ad (i + ts.length) t := by
  intro ts
  induction ts with
  | nil => intro i t; show lwC ty ad i t ++ [] = [] ++ lwC ty ad (i + 0) t; rw [List.append_nil]; rfl
  | cons y ys ih =>
    intro i t
    show lwC ty ad i y ++ lwT ty ad (i + 1) (ys ++ [t]) = (lwC ty ad i y ++ lwT ty ad (i + 1) ys) ++ lwC ty ad (i + (ys.length + 1)) t
    rw [ih, List.append_assoc, show i + 1 + ys.length = i + (ys.length + 1) by omega]
theorem lwC_l {ty : Nat → ClassId} {ad ad' : Nat → Nat} {n : Nat} (h : dAl n ad ad') (i : Nat) (hi : i < n) (t : dT) : lwC ty ad' i t = lwC ty ad i t := by
  unfold lwC
  rw [h (63 + 7 * i) (by omega), h (63 + 7 * i + 1) (by omega), h (63 + 7 * i + 2) (by omega), h (63 + 7 * i + 3) (by omega), h (63 + 7 * i + 4) (by omega), h (63 + 7 * i + 5) (by omega), h (63 + 7 * i + 6) (by omega)]
theorem lwT_l {ty : Nat → ClassId} {ad ad' : Nat → Nat} {n : Nat} (h : dAl n ad ad') : ∀ (ts : List dT) (i : Nat), i + ts.length ≤ n → lwT ty ad' i ts = lwT ty ad i ts := by
  intro ts
  induction ts with
  | nil => intro i _; rfl
  | cons t ts ih =>
    intro i hi
    have hi2 : i + (ts.length + 1) ≤ n := hi
    show lwC ty ad' i t ++ lwT ty ad' (i + 1) ts = lwC ty ad i t ++ lwT ty ad (i + 1) ts
    rw [lwC_l h i (by omega), ih (i + 1) (by omega)]
theorem dLw_l {ad ad' : Nat → Nat} {q : dK} (h : dAl q.2.2.length ad ad') {c : Int32} (hc : cok q c) : dLw ad' c = dLw ad c := by
  unfold dLw
  by_cases z : c = 0
  · rw [if_pos z, if_pos z]
  · rw [if_neg z, if_neg z]
    rcases hc with z2 | z2
    · exact absurd z2 z
    · rw [h _ (by omega)]
theorem dLs_l {ad ad' : Nat → Nat} {q : dK} (h : dAl q.2.2.length ad ad') {f : Nat → Int32} (hc : ∀ i : Nat, i < 6 → cok q (f i)) : dLs ad' f = dLs ad f := by
  funext i
  unfold dLs
  by_cases z : i < 6
  · rw [if_pos z, if_pos z]
    by_cases z3 : f i = 0
    · rw [if_pos z3, if_pos z3]
    · rw [if_neg z3, if_neg z3]
      rcases hc i z with z2 | z2
      · exact absurd z2 z3
      · rw [h _ (by omega)]
  · rw [if_neg z, if_neg z]
theorem wFx_l {ty : Nat → ClassId} {ad ad2 : Nat → Nat} {q : dK} (h : dAl q.2.2.length ad ad2) (hq : dlok q) : wFx ty ad2 q = wFx ty ad q := by
  have e0 := dLw_l h hq.2.1
  have e1 := dLs_l h (fun i hi => (hq.2.2 i hi).1)
  have e2 := dLs_l h (fun i hi => (hq.2.2 i hi).2.1)
  have e3 := dLs_l h (fun i hi => (hq.2.2 i hi).2.2)
  unfold wFx
  rw [e0, e1, e2, e3, h 0 (by omega), h 1 (by omega), h 2 (by omega), h 3 (by omega), h 4 (by omega), h 5 (by omega), h 6 (by omega), h 7 (by omega), h 8 (by omega), h 9 (by omega), h 10 (by omega), h 11 (by omega), h 12 (by omega), h 13 (by omega), h 14 (by omega), h 15 (by omega), h 16 (by omega), h 17 (by omega), h 18 (by omega), h 19 (by omega), h 20 (by omega), h 21 (by omega), h 22 (by omega), h 23 (by omega), h 24 (by omega), h 25 (by omega), h 26 (by omega), h 27 (by omega), h 28 (by omega), h 29 (by omega), h 30 (by omega), h 31 (by omega), h 32 (by omega), h 33 (by omega), h 34 (by omega), h 35 (by omega), h 36 (by omega), h 37 (by omega), h 38 (by omega), h 39 (by omega), h 40 (by omega), h 41 (by omega), h 42 (by omega), h 43 (by omega), h 44 (by omega), h 45 (by omega), h 46 (by omega), h 47 (by omega), h 48 (by omega), h 49 (by omega), h 50 (by omega), h 51 (by omega), h 52 (by omega), h 53 (by omega), h 54 (by omega), h 55 (by omega), h 56 (by omega), h 57 (by omega), h 58 (by omega), h 59 (by omega), h 60 (by omega), h 61 (by omega), h 62 (by omega)]
theorem dLi_of {n : Nat} (h : n < 1000) : dLi (Int32.ofNat (n + 1)) = n := by
  have e : Int32.toNatClampNeg (Int32.ofNat (n + 1)) = n + 1 := nI_clamp (n := n + 1) (by omega)
  unfold dLi
  omega
theorem nd1 (n : Nat) : va_nd [n] = true := dw_nd_of [n] (by rw [List.pairwise_cons]; exact ⟨fun a h => absurd h List.not_mem_nil, List.Pairwise.nil⟩)
theorem dw_lst (ws : va_W) (x : Nat × va_E) : [ws.length].map (fun i => (ws ++ [x])[i]?) = [x].map some := by
  show [(ws ++ [x])[ws.length]?] = [some x]
  rw [List.getElem?_append_right (Nat.le_refl _), Nat.sub_self]
  rfl
theorem adl_ag {ad : Nat → Nat} {n a0 a1 a2 a3 a4 a5 a6 : Nat} : dAl n ad (adl ad n a0 a1 a2 a3 a4 a5 a6) := fun j hj => if_pos hj
theorem adl_at {ad : Nat → Nat} {n a0 a1 a2 a3 a4 a5 a6 : Nat} (j : Nat) : adl ad n a0 a1 a2 a3 a4 a5 a6 (63 + 7 * n + j) = [a0, a1, a2, a3, a4, a5, a6].getD j 0 := by
  unfold adl
  rw [if_neg (by omega), show 63 + 7 * n + j - (63 + 7 * n) = j by omega]
theorem wF_cln (ty : Nat → ClassId) (ad : Nat → Nat) (q : dK) (c k : Int32) (a0 a1 a2 a3 a4 a5 a6 : Nat) (hq : dlok q) : wF ty ad q ++ [(a0, .inr (7, [.ref a1, .ref a2, .ref a3, .ref a4, .ref a5, .ref a6, .int 0, .int 0])), (a1, .inl (ty 0, Int32.toNatClampNeg c, .inl (fun _ => 0))), (a2, .inl (ty 0, Int32.toNatClampNeg c, .inl (fun _ => 0))), (a3, .inl (ty 0, Int32.toNatClampNeg c, .inl (fun _ => 0))), (a4, .inl (ty 0, Int32.toNatClampNeg c, .inl (fun _ => 0))), (a5, .inl (ty 0, Int32.toNatClampNeg c, .inl (fun _ => 0))), (a6, .inl (ty 0, Int32.toNatClampNeg k, .inl (fun _ => 0)))] = wF ty (adl ad q.2.2.length a0 a1 a2 a3 a4 a5 a6) (cln q c k) := by
  have h : dAl q.2.2.length ad (adl ad q.2.2.length a0 a1 a2 a3 a4 a5 a6) := adl_ag
  have h0 := adl_at (ad := ad) (n := q.2.2.length) (a0 := a0) (a1 := a1) (a2 := a2) (a3 := a3) (a4 := a4) (a5 := a5) (a6 := a6)
  generalize adl ad q.2.2.length a0 a1 a2 a3 a4 a5 a6 = ad2 at h h0 ⊢
  show (wFx ty ad q ++ lwT ty ad 0 q.2.2) ++ _ = wFx ty ad2 (cln q c k) ++ lwT ty ad2 0 (q.2.2 ++ [(0, 0, c, k, fun _ _ => 0)])
  rw [lwT_app, lwT_l h q.2.2 0 (by omega), List.append_assoc, Nat.zero_add]
  rw [show wFx ty ad2 (cln q c k) = wFx ty ad2 q from rfl, wFx_l h hq]
  unfold lwC
  rw [show 63 + 7 * q.2.2.length = 63 + 7 * q.2.2.length + 0 from rfl, h0 0, h0 1, h0 2, h0 3, h0 4, h0 5, h0 6]
  rfl
section DX
variable {p : Program} {l : Launch} {e : Env} {R : Room} {s : State} {m : MethodId} {args : Array Value} {below : List Frame} {meth : Method} {c : Code} {H : Heap} {locs : List Loc} {cells slots : Nat} {Q : State → Prop}
variable {pc : Nat} {ls : Array Slot} {rest st0 : List Value} {a : Array Value} {A0 : Nat → Prop} {H0 : Heap} {mc ms : Nat} {D : va_G} {ty : Nat → ClassId} {ws : va_W}
theorem dw_up {c2 s2 : Nat} {pc : Nat} {st : List Value} (hc : cells ≤ c2) (hs : slots ≤ s2) (k : W p l e R s m args below meth c H locs c2 s2 Q (F0 m pc ls st)) : W p l e R s m args below meth c H locs cells slots Q (F0 m pc ls st) := W.widen hc hs k
theorem kz_topv {x y : Value} (h : x = y) (k : W p l e R s m args below meth c H locs cells slots Q (F0 m pc ls (y :: rest))) : W p l e R s m args below meth c H locs cells slots Q (F0 m pc ls (x :: rest)) := by
  subst h
  exact k
/-- a call over the whole world whose answer is a reference or null -/
theorem dw_kq {post : Value → va_W → Prop} (hr : va_Run p l e R s m args below meth c H locs cells slots mc ms (F0 m pc ls st0) rest (kz_Q post (kz_B D ty (va_A ws H.size)) (va_A ws H.size) a) (va_A ws H.size)) (hP : va_P D vwCl ws H) (hD : va_D A0 ws) (hS : va_S A0 H0 H locs) (hA : ∀ q, H0.size ≤ q → A0 q)
    (kk : ∀ (r : Value) (u : va_W) (H1 : Heap) (locs1 : List Loc), post r u → va_P D vwCl u H1 → va_D A0 u → va_S A0 H0 H1 locs1 → W p l e R s m args below meth c H1 locs1 (cells + mc) (slots + ms) Q (F0 m (pc + 3) ls (r :: rest))) : W p l e R s m args below meth c H locs cells slots Q (F0 m pc ls st0) :=
  kz_kq (wc := ws) (wr := []) hr hP hD hS hA (List.range ws.length) [] (dw_rng ws) rfl rfl (fun _ h => absurd h List.not_mem_nil) (fun r u H1 locs1 hw hP1 hD1 hS1 => kk r u H1 locs1 hw hP1 hD1 hS1)
/-- a call over one cell of the world -/
theorem dw_kv1 {post : va_W → Prop} {j b : Nat} {x x2 : va_E} (hj : ws[j]? = some (b, x)) (hr : va_Run p l e R s m args below meth c H locs cells slots mc ms (F0 m pc ls st0) rest (va_Qv post (kz_B D ty (va_A [(b, x)] H.size)) (va_A [(b, x)] H.size) a) (va_A [(b, x)] H.size)) (hP : va_P D vwCl ws H) (hD : va_D A0 ws) (hS : va_S A0 H0 H locs) (hA : ∀ q, H0.size ≤ q → A0 q)
    (hpost : ∀ u : va_W, post u → u = [(b, x2)])
    (kk : ∀ (H1 : Heap) (locs1 : List Loc), va_P D vwCl (ws.set j (b, x2)) H1 → va_D A0 (ws.set j (b, x2)) → va_S A0 H0 H1 locs1 → W p l e R s m args below meth c H1 locs1 (cells + mc) (slots + ms) Q (F0 m (pc + 3) ls rest)) : W p l e R s m args below meth c H locs cells slots Q (F0 m pc ls st0) := by
  have hF := va_free (wc := [(b, x)]) hD hS hA [j] (by show [ws[j]?] = _; rw [hj]; rfl)
  refine va_callv hr hS (fun q _ h => hF q h) hF (fun u t H1 locs1 ht hvm hw hB hz1 hk1 hS1 => ?_)
  obtain ⟨hP1, hK1, hD1⟩ := hB
  rw [ht] at hP1
  have hu := hpost u hw
  subst hu
  refine kk H1 locs1 (fun k q hk => ?_) (hD.set hj) hS1
  have hD2 := hD.set (e := x2) hj
  by_cases c1 : k = j
  · have h0 : (ws.set j (b, x2))[j]? = some (b, x2) := by
      have hlt : j < ws.length := (List.getElem?_eq_some_iff.mp hj).1
      exact List.getElem?_set_self hlt
    rw [c1, h0] at hk
    cases hk
    exact hP1 0 _ rfl
  · have h0 : (ws.set j (b, x2))[k]? = ws[k]? := by
      have c2 : ¬ j = k := fun z => c1 z.symm
      exact List.getElem?_set_ne c2
    rw [h0] at hk
    have h2 := hP k q hk
    refine h2.kept (hk1 q.1 h2.lt (fun z => ?_))
    rcases z with ⟨k2, e2, h3⟩ | h3
    · cases k2 with
      | zero =>
        have h4 : b = q.1 := congrArg Prod.fst (Option.some.inj h3)
        exact c1 (hD.1 k j q (b, x) hk hj h4.symm)
      | succ k2 => cases h3
    · have := h2.lt
      omega
/-- a call over the last cell -/
theorem dw_kvl {post : va_W → Prop} {x : Nat × va_E} (hr : va_Run p l e R s m args below meth c H locs cells slots mc ms (F0 m pc ls st0) rest (va_Qv post (kz_B D ty (va_A [x] H.size)) (va_A [x] H.size) a) (va_A [x] H.size)) (hP : va_P D vwCl (ws ++ [x]) H) (hD : va_D A0 (ws ++ [x])) (hS : va_S A0 H0 H locs) (hA : ∀ q, H0.size ≤ q → A0 q)
    (kk : ∀ (u : va_W) (H1 : Heap) (locs1 : List Loc), post u → va_P D vwCl (ws ++ u) H1 → va_D A0 (ws ++ u) → va_S A0 H0 H1 locs1 → W p l e R s m args below meth c H1 locs1 (cells + mc) (slots + ms) Q (F0 m (pc + 3) ls rest)) : W p l e R s m args below meth c H locs cells slots Q (F0 m pc ls st0) := by
  refine kz_kv (wc := [x]) (wr := ws) hr hP hD hS hA [ws.length] (List.range ws.length) ?_ ?_ (dw_nd _) (fun i hi => ?_) kk
  · show [(ws ++ [x])[ws.length]?] = [some x]
    rw [List.getElem?_append_right (Nat.le_refl _), Nat.sub_self]
    rfl
  · rw [← dw_rng ws]
    apply List.map_congr_left
    intro i hi
    exact List.getElem?_append_left (List.mem_range.mp hi)
  · intro z
    rw [List.mem_singleton] at z
    exact absurd (List.mem_range.mp hi) (by omega)
theorem cl_lt (x : Int32) : Int32.toNatClampNeg x < 2147483648 := by
  have h1 : Int32.toNatClampNeg x = x.toInt.toNat := rfl
  have h2 := x.toInt_lt
  omega
end DX
