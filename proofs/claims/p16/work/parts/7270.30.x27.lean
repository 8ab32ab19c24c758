/-! no rank twice: which ranks there are -/
def RS (n : Int) (f : Nat → Int) (N : Int) (P : Int → Prop) : Prop := n = N ∧ (∀ r : Int, (∃ i : Nat, (i : Int) < n ∧ f i = r) ↔ P r) ∧ ∀ i j : Nat, (i : Int) < n → (j : Int) < n → f i = f j → i = j
theorem RS_e {n m : Int} {f g : Nat → Int} {N : Int} {P : Int → Prop} (h : RS n f N P) (hn : m = n) (hf : ∀ i : Nat, (i : Int) < n → g i = f i) : RS m g N P := by
  subst hn
  refine ⟨h.1, fun r => ⟨fun z => ?_, fun z => ?_⟩, fun i j hi hj e => h.2.2 i j hi hj ((hf i hi).symm.trans (e.trans (hf j hj)))⟩
  · obtain ⟨i, hi, e⟩ := z
    exact (h.2.1 r).mp ⟨i, hi, (hf i hi).symm.trans e⟩
  · obtain ⟨i, hi, e⟩ := (h.2.1 r).mpr z
    exact ⟨i, hi, (hf i hi).trans e⟩
theorem RS_p {n : Int} {f g : Nat → Int} {N : Int} {P : Int → Prop} (h : RS n f N P) (p : Nat → Nat) (hp : ∀ i : Nat, (i : Int) < n → ((p i : Nat) : Int) < n ∧ p (p i) = i) (hf : ∀ i : Nat, (i : Int) < n → g i = f (p i)) : RS n g N P := by
  refine ⟨h.1, fun r => ⟨fun z => ?_, fun z => ?_⟩, fun i j hi hj e => ?_⟩
  · obtain ⟨i, hi, e⟩ := z
    exact (h.2.1 r).mp ⟨p i, (hp i hi).1, (hf i hi).symm.trans e⟩
  · obtain ⟨i, hi, e⟩ := (h.2.1 r).mpr z
    exact ⟨p i, (hp i hi).1, by rw [hf _ (hp i hi).1, (hp i hi).2]; exact e⟩
  · have z := h.2.2 (p i) (p j) (hp i hi).1 (hp j hj).1 ((hf i hi).symm.trans (e.trans (hf j hj)))
    have z2 := congrArg p z
    rw [(hp i hi).2, (hp j hj).2] at z2
    exact z2
theorem RS_sw {a b : Nat} {n : Int} {f : Nat → Int} {N : Int} {P : Int → Prop} (ha : (a : Int) < n) (hb : (b : Int) < n) (h : RS n f N P) : RS n (sw a b f) N P := by
  refine RS_p h (fun i => if i = b then a else if i = a then b else i) (fun i hi => ?_) (fun i hi => ?_)
  · show (((if i = b then a else if i = a then b else i : Nat) : Int) < n) ∧ (if (if i = b then a else if i = a then b else i) = b then a else if (if i = b then a else if i = a then b else i) = a then b else (if i = b then a else if i = a then b else i)) = i
    by_cases c1 : i = b
    · rw [if_pos c1]
      refine ⟨ha, ?_⟩
      by_cases c3 : a = b
      · rw [if_pos c3]; omega
      · rw [if_neg c3, if_pos rfl]; exact c1.symm
    · rw [if_neg c1]
      by_cases c2 : i = a
      · rw [if_pos c2]
        refine ⟨hb, ?_⟩
        rw [if_pos rfl]; exact c2.symm
      · rw [if_neg c2]
        refine ⟨hi, ?_⟩
        rw [if_neg c1, if_neg c2]
  · show (if i = b then f a else if i = a then f b else f i) = f (if i = b then a else if i = a then b else i)
    by_cases c1 : i = b
    · rw [if_pos c1, if_pos c1]
    · rw [if_neg c1, if_neg c1]
      by_cases c2 : i = a
      · rw [if_pos c2, if_pos c2]
      · rw [if_neg c2, if_neg c2]
