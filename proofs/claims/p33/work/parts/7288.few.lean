def fwA (S : Int32) (x : Int64) : Int64 := (x * (Int32.toInt64 (10 - S : Int32)) : Int64) / 10
def fwB (S : Int32) (x : Int64) : Int64 := (x * (Int32.toInt64 S) : Int64) / 10
def fwS (S : Int32) (f : Nat → Int64) : Nat → Int64 := fun i => if i = 0 then fwA S (f 0) else fwA S (f i) + fwB S (f (i - 1))
def fwI (S : Int32) : Nat → Nat → Int64
  | 0 => fun i => if i = 0 then 1000000000000 else 0
  | n + 1 => fwS S (fwI S n)
def fwZ (f : Nat → Int64) : Nat → Int64
  | 0 => 0
  | k + 1 => fwZ f k + f k
/-- what few answers, by the slips that there are -/
def fwV (S a1 a2 : Int32) : Int64 := if 1 ≤ Int32.toInt a1 ∧ Int32.toInt a1 ≤ 20 ∧ 0 ≤ Int32.toInt a2 ∧ Int32.toInt a2 ≤ 99 then fwZ (fwI S (Int32.toNatClampNeg a2)) (Int32.toNatClampNeg a1) else -1
theorem cul_e {q : dK} {j k : Nat} {v : Int64} : (cul q j k v).2.1 j k = v := by
  show (if j = j then vp_updL (q.2.1 j) k v else q.2.1 j) k = v
  rw [if_pos rfl]
  exact if_pos rfl
theorem cul_n {q : dK} {j k i : Nat} {v : Int64} (h : ¬ i = k) : (cul q j k v).2.1 j i = q.2.1 j i := by
  show (if j = j then vp_updL (q.2.1 j) k v else q.2.1 j) i = _
  rw [if_pos rfl]
  exact if_neg h
theorem dul_e {q : dS} {j k : Nat} {v : Int64} : (dul q j k v).2 j k = v := by
  show (if j = j then vp_updL (q.2 j) k v else q.2 j) k = v
  rw [if_pos rfl]
  exact if_pos rfl
theorem dul_n {q : dS} {j k i : Nat} {v : Int64} (h : ¬ i = k) : (dul q j k v).2 j i = q.2 j i := by
  show (if j = j then vp_updL (q.2 j) k v else q.2 j) i = _
  rw [if_pos rfl]
  exact if_neg h
theorem fwZ_0 (f : Nat → Int64) : fwZ f 0 = 0 := rfl
theorem fwZ_s (f : Nat → Int64) (k : Nat) : fwZ f (k + 1) = fwZ f k + f k := rfl
theorem fwS_0 (S : Int32) (f : Nat → Int64) {i : Nat} (h : i = 0) : fwS S f i = fwA S (f 0) := if_pos h
theorem fwS_s (S : Int32) (f : Nat → Int64) {i : Nat} (h : ¬ i = 0) : fwS S f i = fwA S (f i) + fwB S (f (i - 1)) := if_neg h
theorem fwI_s (S : Int32) (n : Nat) : fwI S (n + 1) = fwS S (fwI S n) := rfl
theorem fwA_e (S : Int32) (x : Int64) : (x * (Int32.toInt64 (10 - S : Int32)) : Int64) / 10 = fwA S x := rfl
theorem fwB_e (S : Int32) (x : Int64) : (x * (Int32.toInt64 S) : Int64) / 10 = fwB S x := rfl
theorem cl_00 : Int32.toNatClampNeg 0 = 0 := by decide
