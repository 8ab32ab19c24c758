section
/-! the class's state: numbers by place, long numbers by place, the texts of laws (clauses, length, lengths of the rows, rows) -/
abbrev dT : Type := Int32 × Int32 × Int32 × Int32 × (Nat → Nat → Int32)
abbrev dK : Type := (Nat → Nat → Int32) × (Nat → Nat → Int64) × List dT
def cui (q : dK) (j k : Nat) (v : Int32) : dK := (fun i => if i = j then upd (q.1 j) k v else q.1 i, q.2)
def cul (q : dK) (j k : Nat) (v : Int64) : dK := (q.1, fun i => if i = j then vp_updL (q.2.1 j) k v else q.2.1 i, q.2.2)
def cci (q : dK) (j0 j1 s d n : Nat) : dK := (fun i => if i = j1 then va_cpy (q.1 j0) (q.1 j1) s d n else q.1 i, q.2)
def ccl (q : dK) (j0 j1 s d n : Nat) : dK := (q.1, fun i => if i = j1 then va_cpy (q.2.1 j0) (q.2.1 j1) s d n else q.2.1 i, q.2.2)
def cfi (q : dK) (j n : Nat) (v : Int32) : dK := (fun i => if i = j then kz_fl (q.1 j) n v else q.1 i, q.2)
def cfl (q : dK) (j n : Nat) (v : Int64) : dK := (q.1, fun i => if i = j then kz_flL (q.2.1 j) n v else q.2.1 i, q.2.2)
def mnI (a b : Int32) : Int32 := if b < a then b else a
def mxI (a b : Int32) : Int32 := if a < b then b else a
/-- a new row of the paper: zeros, and its length -/
def cnw (q : dK) (j k : Nat) (n : Int32) : dK := (fun i => if i = j then (fun _ => 0) else if i = 32 then upd (q.1 32) k n else q.1 i, q.2)
end
section
/-! the world of the class: every object and row at its place; behind them the texts of laws -/
def dLi (c : Int32) : Nat := c.toNatClampNeg - 1
def dLw (ad : Nat → Nat) (c : Int32) : Value := if c = 0 then .null else .ref (ad (63 + 7 * dLi c))
def dLs (ad : Nat → Nat) (f : Nat → Int32) : Nat → Option Nat := fun i => if i < 6 then (if f i = 0 then none else some (ad (63 + 7 * dLi (f i)))) else none
def dN (a : Nat) (c : Int32) : Value := if c = 0 then .null else .ref a
def dIm (a b : Nat) : Nat → Option Nat := fun i => if i = 0 then some a else if i = 1 then some b else none
def lwC (ty : Nat → ClassId) (ad : Nat → Nat) (i : Nat) (t : dT) : va_W := [(ad (63 + 7 * i), .inr (7, [.ref (ad (63 + 7 * i + 1)), .ref (ad (63 + 7 * i + 2)), .ref (ad (63 + 7 * i + 3)), .ref (ad (63 + 7 * i + 4)), .ref (ad (63 + 7 * i + 5)), .ref (ad (63 + 7 * i + 6)), .int t.1, .int t.2.1])), (ad (63 + 7 * i + 1), .inl (ty 0, Int32.toNatClampNeg t.2.2.1, .inl (t.2.2.2.2 0))), (ad (63 + 7 * i + 2), .inl (ty 0, Int32.toNatClampNeg t.2.2.1, .inl (t.2.2.2.2 1))), (ad (63 + 7 * i + 3), .inl (ty 0, Int32.toNatClampNeg t.2.2.1, .inl (t.2.2.2.2 2))), (ad (63 + 7 * i + 4), .inl (ty 0, Int32.toNatClampNeg t.2.2.1, .inl (t.2.2.2.2 3))), (ad (63 + 7 * i + 5), .inl (ty 0, Int32.toNatClampNeg t.2.2.1, .inl (t.2.2.2.2 4))), (ad (63 + 7 * i + 6), .inl (ty 0, Int32.toNatClampNeg t.2.2.2.1, .inl (t.2.2.2.2 5)))]
def lwT (ty : Nat → ClassId) (ad : Nat → Nat) : Nat → List dT → va_W
  | _, [] => []
  | i, t :: ts => lwC ty ad i t ++ lwT ty ad (i + 1) ts
def wFx (ty : Nat → ClassId) (ad : Nat → Nat) (q : dK) : va_W := [(ad 0, .inr (9, [.ref (ad 1), .ref (ad 8), .ref (ad 9), .ref (ad 10), .ref (ad 15), .ref (ad 18), .ref (ad 20), .ref (ad 22), .ref (ad 24), .ref (ad 25), .ref (ad 32), .ref (ad 46), .int (q.1 0 12), .int (q.1 0 13), .int (q.1 0 14), .int (q.1 0 15), .ref (ad 47), .ref (ad 48), .int (q.1 0 18)])), (ad 1, .inr (6, [.ref (ad 2), .int (q.1 1 1), .int (q.1 1 2), .int (q.1 1 3), .ref (ad 5), .ref (ad 6), .int (q.1 1 6), .ref (ad 7), .int (q.1 1 8), .int (q.1 1 9)])), (ad 2, .inr (8, [.ref (ad 3), .ref (ad 4), .int (q.1 2 2), .int (q.1 2 3), .int (q.1 2 4)])), (ad 3, .inl (ty 0, 6, .inl (q.1 3))), (ad 4, .inl (ty 0, 6, .inl (q.1 4))), (ad 5, .inl (ty 0, 6, .inl (q.1 5))), (ad 6, .inl (ty 0, 6, .inl (q.1 6))), (ad 7, .inl (ty 5, 6, .inr (.inr (.inr (.inr (dLs ad (q.1 7))))))), (ad 8, .inl (ty 4, 2, .inr (.inr (.inr (.inr (dIm (ad 49) (ad 56))))))), (ad 9, .inl (ty 2, 2, .inl (q.1 9))), (ad 10, .inr (0, [.ref (ad 11), .ref (ad 12), .int (q.1 10 2), .ref (ad 13), .ref (ad 14), .int (q.1 10 5)])), (ad 11, .inl (ty 1, 16, .inr (.inl (q.2.1 11)))), (ad 12, .inl (ty 0, 16, .inl (q.1 12))), (ad 13, .inl (ty 1, 16, .inr (.inl (q.2.1 13)))), (ad 14, .inl (ty 0, 16, .inl (q.1 14))), (ad 15, .inr (8, [.ref (ad 16), .ref (ad 17), .int (q.1 15 2), .int (q.1 15 3), .int (q.1 15 4)])), (ad 16, .inl (ty 0, 6, .inl (q.1 16))), (ad 17, .inl (ty 0, 6, .inl (q.1 17))), (ad 18, .inr (2, [.ref (ad 19), .int (q.1 18 1)])), (ad 19, .inl (ty 0, 64, .inl (q.1 19))), (ad 20, .inr (1, [.ref (ad 18), .ref (ad 21), dLw ad (q.1 20 2)])), (ad 21, .inl (ty 0, 9, .inl (q.1 21))), (ad 22, .inr (5, [.ref (ad 18), .ref (ad 23), .int (q.1 22 2), .int (q.1 22 3)])), (ad 23, .inl (ty 0, 17, .inl (q.1 23))), (ad 24, .inr (4, [dN (ad 46) (q.1 24 0), .int (q.1 24 1), .int (q.1 24 2), dN (ad 25) (q.1 24 3), .int (q.1 24 4), .int (q.1 24 5), .int (q.1 24 6), .int (q.1 24 7), .int (q.1 24 8), .int (q.1 24 9), .int (q.1 24 10)])), (ad 25, .inr (7, [.ref (ad 26), .ref (ad 27), .ref (ad 28), .ref (ad 29), .ref (ad 30), .ref (ad 31), .int (q.1 25 6), .int (q.1 25 7)])), (ad 26, .inl (ty 0, 12, .inl (q.1 26))), (ad 27, .inl (ty 0, 12, .inl (q.1 27))), (ad 28, .inl (ty 0, 12, .inl (q.1 28))), (ad 29, .inl (ty 0, 12, .inl (q.1 29))), (ad 30, .inl (ty 0, 12, .inl (q.1 30))), (ad 31, .inl (ty 0, 400, .inl (q.1 31))), (ad 32, .inr (3, [.ref (ad 33), .ref (ad 34), .ref (ad 35), .ref (ad 36), .ref (ad 37), .ref (ad 38), .ref (ad 39), .ref (ad 40), .ref (ad 41), .ref (ad 42), .ref (ad 43), .ref (ad 44), .ref (ad 45), .int (q.1 32 13), .int (q.1 32 14), .int (q.1 32 15), .int (q.1 32 16), .int (q.1 32 17), .int (q.1 32 18), .int (q.1 32 19)])), (ad 33, .inl (ty 0, 6, .inl (q.1 33))), (ad 34, .inl (ty 0, 6, .inl (q.1 34))), (ad 35, .inl (ty 0, 504, .inl (q.1 35))), (ad 36, .inl (ty 0, 504, .inl (q.1 36))), (ad 37, .inl (ty 0, 504, .inl (q.1 37))), (ad 38, .inl (ty 0, 100, .inl (q.1 38))), (ad 39, .inl (ty 0, (Int32.toNatClampNeg (q.1 32 100)), .inl (q.1 39))), (ad 40, .inl (ty 0, (Int32.toNatClampNeg (q.1 32 101)), .inl (q.1 40))), (ad 41, .inl (ty 0, (Int32.toNatClampNeg (q.1 32 102)), .inl (q.1 41))), (ad 42, .inl (ty 0, (Int32.toNatClampNeg (q.1 32 103)), .inl (q.1 42))), (ad 43, .inl (ty 0, (Int32.toNatClampNeg (q.1 32 104)), .inl (q.1 43))), (ad 44, .inl (ty 0, (Int32.toNatClampNeg (q.1 32 105)), .inl (q.1 44))), (ad 45, .inl (ty 0, (Int32.toNatClampNeg (q.1 32 106)), .inl (q.1 45))), (ad 46, .inl (ty 0, 400, .inl (q.1 46))), (ad 47, .inl (ty 1, 20, .inr (.inl (q.2.1 47)))), (ad 48, .inl (ty 0, 7, .inl (q.1 48))), (ad 49, .inr (6, [.ref (ad 50), .int (q.1 49 1), .int (q.1 49 2), .int (q.1 49 3), .ref (ad 53), .ref (ad 54), .int (q.1 49 6), .ref (ad 55), .int (q.1 49 8), .int (q.1 49 9)])), (ad 50, .inr (8, [.ref (ad 51), .ref (ad 52), .int (q.1 50 2), .int (q.1 50 3), .int (q.1 50 4)])), (ad 51, .inl (ty 0, 6, .inl (q.1 51))), (ad 52, .inl (ty 0, 6, .inl (q.1 52))), (ad 53, .inl (ty 0, 6, .inl (q.1 53))), (ad 54, .inl (ty 0, 6, .inl (q.1 54))), (ad 55, .inl (ty 5, 6, .inr (.inr (.inr (.inr (dLs ad (q.1 55))))))), (ad 56, .inr (6, [.ref (ad 57), .int (q.1 56 1), .int (q.1 56 2), .int (q.1 56 3), .ref (ad 60), .ref (ad 61), .int (q.1 56 6), .ref (ad 62), .int (q.1 56 8), .int (q.1 56 9)])), (ad 57, .inr (8, [.ref (ad 58), .ref (ad 59), .int (q.1 57 2), .int (q.1 57 3), .int (q.1 57 4)])), (ad 58, .inl (ty 0, 6, .inl (q.1 58))), (ad 59, .inl (ty 0, 6, .inl (q.1 59))), (ad 60, .inl (ty 0, 6, .inl (q.1 60))), (ad 61, .inl (ty 0, 6, .inl (q.1 61))), (ad 62, .inl (ty 5, 6, .inr (.inr (.inr (.inr (dLs ad (q.1 62)))))))]
def wF (ty : Nat → ClassId) (ad : Nat → Nat) (q : dK) : va_W := (ad 0, .inr (9, [.ref (ad 1), .ref (ad 8), .ref (ad 9), .ref (ad 10), .ref (ad 15), .ref (ad 18), .ref (ad 20), .ref (ad 22), .ref (ad 24), .ref (ad 25), .ref (ad 32), .ref (ad 46), .int (q.1 0 12), .int (q.1 0 13), .int (q.1 0 14), .int (q.1 0 15), .ref (ad 47), .ref (ad 48), .int (q.1 0 18)])) :: (ad 1, .inr (6, [.ref (ad 2), .int (q.1 1 1), .int (q.1 1 2), .int (q.1 1 3), .ref (ad 5), .ref (ad 6), .int (q.1 1 6), .ref (ad 7), .int (q.1 1 8), .int (q.1 1 9)])) :: (ad 2, .inr (8, [.ref (ad 3), .ref (ad 4), .int (q.1 2 2), .int (q.1 2 3), .int (q.1 2 4)])) :: (ad 3, .inl (ty 0, 6, .inl (q.1 3))) :: (ad 4, .inl (ty 0, 6, .inl (q.1 4))) :: (ad 5, .inl (ty 0, 6, .inl (q.1 5))) :: (ad 6, .inl (ty 0, 6, .inl (q.1 6))) :: (ad 7, .inl (ty 5, 6, .inr (.inr (.inr (.inr (dLs ad (q.1 7))))))) :: (ad 8, .inl (ty 4, 2, .inr (.inr (.inr (.inr (dIm (ad 49) (ad 56))))))) :: (ad 9, .inl (ty 2, 2, .inl (q.1 9))) :: (ad 10, .inr (0, [.ref (ad 11), .ref (ad 12), .int (q.1 10 2), .ref (ad 13), .ref (ad 14), .int (q.1 10 5)])) :: (ad 11, .inl (ty 1, 16, .inr (.inl (q.2.1 11)))) :: (ad 12, .inl (ty 0, 16, .inl (q.1 12))) :: (ad 13, .inl (ty 1, 16, .inr (.inl (q.2.1 13)))) :: (ad 14, .inl (ty 0, 16, .inl (q.1 14))) :: (ad 15, .inr (8, [.ref (ad 16), .ref (ad 17), .int (q.1 15 2), .int (q.1 15 3), .int (q.1 15 4)])) :: (ad 16, .inl (ty 0, 6, .inl (q.1 16))) :: (ad 17, .inl (ty 0, 6, .inl (q.1 17))) :: (ad 18, .inr (2, [.ref (ad 19), .int (q.1 18 1)])) :: (ad 19, .inl (ty 0, 64, .inl (q.1 19))) :: (ad 20, .inr (1, [.ref (ad 18), .ref (ad 21), dLw ad (q.1 20 2)])) :: (ad 21, .inl (ty 0, 9, .inl (q.1 21))) :: (ad 22, .inr (5, [.ref (ad 18), .ref (ad 23), .int (q.1 22 2), .int (q.1 22 3)])) :: (ad 23, .inl (ty 0, 17, .inl (q.1 23))) :: (ad 24, .inr (4, [dN (ad 46) (q.1 24 0), .int (q.1 24 1), .int (q.1 24 2), dN (ad 25) (q.1 24 3), .int (q.1 24 4), .int (q.1 24 5), .int (q.1 24 6), .int (q.1 24 7), .int (q.1 24 8), .int (q.1 24 9), .int (q.1 24 10)])) :: (ad 25, .inr (7, [.ref (ad 26), .ref (ad 27), .ref (ad 28), .ref (ad 29), .ref (ad 30), .ref (ad 31), .int (q.1 25 6), .int (q.1 25 7)])) :: (ad 26, .inl (ty 0, 12, .inl (q.1 26))) :: (ad 27, .inl (ty 0, 12, .inl (q.1 27))) :: (ad 28, .inl (ty 0, 12, .inl (q.1 28))) :: (ad 29, .inl (ty 0, 12, .inl (q.1 29))) :: (ad 30, .inl (ty 0, 12, .inl (q.1 30))) :: (ad 31, .inl (ty 0, 400, .inl (q.1 31))) :: (ad 32, .inr (3, [.ref (ad 33), .ref (ad 34), .ref (ad 35), .ref (ad 36), .ref (ad 37), .ref (ad 38), .ref (ad 39), .ref (ad 40), .ref (ad 41), .ref (ad 42), .ref (ad 43), .ref (ad 44), .ref (ad 45), .int (q.1 32 13), .int (q.1 32 14), .int (q.1 32 15), .int (q.1 32 16), .int (q.1 32 17), .int (q.1 32 18), .int (q.1 32 19)])) :: (ad 33, .inl (ty 0, 6, .inl (q.1 33))) :: (ad 34, .inl (ty 0, 6, .inl (q.1 34))) :: (ad 35, .inl (ty 0, 504, .inl (q.1 35))) :: (ad 36, .inl (ty 0, 504, .inl (q.1 36))) :: (ad 37, .inl (ty 0, 504, .inl (q.1 37))) :: (ad 38, .inl (ty 0, 100, .inl (q.1 38))) :: (ad 39, .inl (ty 0, (Int32.toNatClampNeg (q.1 32 100)), .inl (q.1 39))) :: (ad 40, .inl (ty 0, (Int32.toNatClampNeg (q.1 32 101)), .inl (q.1 40))) :: (ad 41, .inl (ty 0, (Int32.toNatClampNeg (q.1 32 102)), .inl (q.1 41))) :: (ad 42, .inl (ty 0, (Int32.toNatClampNeg (q.1 32 103)), .inl (q.1 42))) :: (ad 43, .inl (ty 0, (Int32.toNatClampNeg (q.1 32 104)), .inl (q.1 43))) :: (ad 44, .inl (ty 0, (Int32.toNatClampNeg (q.1 32 105)), .inl (q.1 44))) :: (ad 45, .inl (ty 0, (Int32.toNatClampNeg (q.1 32 106)), .inl (q.1 45))) :: (ad 46, .inl (ty 0, 400, .inl (q.1 46))) :: (ad 47, .inl (ty 1, 20, .inr (.inl (q.2.1 47)))) :: (ad 48, .inl (ty 0, 7, .inl (q.1 48))) :: (ad 49, .inr (6, [.ref (ad 50), .int (q.1 49 1), .int (q.1 49 2), .int (q.1 49 3), .ref (ad 53), .ref (ad 54), .int (q.1 49 6), .ref (ad 55), .int (q.1 49 8), .int (q.1 49 9)])) :: (ad 50, .inr (8, [.ref (ad 51), .ref (ad 52), .int (q.1 50 2), .int (q.1 50 3), .int (q.1 50 4)])) :: (ad 51, .inl (ty 0, 6, .inl (q.1 51))) :: (ad 52, .inl (ty 0, 6, .inl (q.1 52))) :: (ad 53, .inl (ty 0, 6, .inl (q.1 53))) :: (ad 54, .inl (ty 0, 6, .inl (q.1 54))) :: (ad 55, .inl (ty 5, 6, .inr (.inr (.inr (.inr (dLs ad (q.1 55))))))) :: (ad 56, .inr (6, [.ref (ad 57), .int (q.1 56 1), .int (q.1 56 2), .int (q.1 56 3), .ref (ad 60), .ref (ad 61), .int (q.1 56 6), .ref (ad 62), .int (q.1 56 8), .int (q.1 56 9)])) :: (ad 57, .inr (8, [.ref (ad 58), .ref (ad 59), .int (q.1 57 2), .int (q.1 57 3), .int (q.1 57 4)])) :: (ad 58, .inl (ty 0, 6, .inl (q.1 58))) :: (ad 59, .inl (ty 0, 6, .inl (q.1 59))) :: (ad 60, .inl (ty 0, 6, .inl (q.1 60))) :: (ad 61, .inl (ty 0, 6, .inl (q.1 61))) :: (ad 62, .inl (ty 5, 6, .inr (.inr (.inr (.inr (dLs ad (q.1 62))))))) :: lwT ty ad 0 q.2.2
theorem wF_f0_12 (ty : Nat → ClassId) (ad : Nat → Nat) (q : dK) (v : Int32) : (wF ty ad q).set 0 (ad 0, .inr (9, [.ref (ad 1), .ref (ad 8), .ref (ad 9), .ref (ad 10), .ref (ad 15), .ref (ad 18), .ref (ad 20), .ref (ad 22), .ref (ad 24), .ref (ad 25), .ref (ad 32), .ref (ad 46), .int v, .int (q.1 0 13), .int (q.1 0 14), .int (q.1 0 15), .ref (ad 47), .ref (ad 48), .int (q.1 0 18)])) = wF ty ad (cui q 0 12 v) := rfl
theorem wF_f0_13 (ty : Nat → ClassId) (ad : Nat → Nat) (q : dK) (v : Int32) : (wF ty ad q).set 0 (ad 0, .inr (9, [.ref (ad 1), .ref (ad 8), .ref (ad 9), .ref (ad 10), .ref (ad 15), .ref (ad 18), .ref (ad 20), .ref (ad 22), .ref (ad 24), .ref (ad 25), .ref (ad 32), .ref (ad 46), .int (q.1 0 12), .int v, .int (q.1 0 14), .int (q.1 0 15), .ref (ad 47), .ref (ad 48), .int (q.1 0 18)])) = wF ty ad (cui q 0 13 v) := rfl
theorem wF_f0_14 (ty : Nat → ClassId) (ad : Nat → Nat) (q : dK) (v : Int32) : (wF ty ad q).set 0 (ad 0, .inr (9, [.ref (ad 1), .ref (ad 8), .ref (ad 9), .ref (ad 10), .ref (ad 15), .ref (ad 18), .ref (ad 20), .ref (ad 22), .ref (ad 24), .ref (ad 25), .ref (ad 32), .ref (ad 46), .int (q.1 0 12), .int (q.1 0 13), .int v, .int (q.1 0 15), .ref (ad 47), .ref (ad 48), .int (q.1 0 18)])) = wF ty ad (cui q 0 14 v) := rfl
theorem wF_f0_15 (ty : Nat → ClassId) (ad : Nat → Nat) (q : dK) (v : Int32) : (wF ty ad q).set 0 (ad 0, .inr (9, [.ref (ad 1), .ref (ad 8), .ref (ad 9), .ref (ad 10), .ref (ad 15), .ref (ad 18), .ref (ad 20), .ref (ad 22), .ref (ad 24), .ref (ad 25), .ref (ad 32), .ref (ad 46), .int (q.1 0 12), .int (q.1 0 13), .int (q.1 0 14), .int v, .ref (ad 47), .ref (ad 48), .int (q.1 0 18)])) = wF ty ad (cui q 0 15 v) := rfl
theorem wF_f0_18 (ty : Nat → ClassId) (ad : Nat → Nat) (q : dK) (v : Int32) : (wF ty ad q).set 0 (ad 0, .inr (9, [.ref (ad 1), .ref (ad 8), .ref (ad 9), .ref (ad 10), .ref (ad 15), .ref (ad 18), .ref (ad 20), .ref (ad 22), .ref (ad 24), .ref (ad 25), .ref (ad 32), .ref (ad 46), .int (q.1 0 12), .int (q.1 0 13), .int (q.1 0 14), .int (q.1 0 15), .ref (ad 47), .ref (ad 48), .int v])) = wF ty ad (cui q 0 18 v) := rfl
theorem wF_f1_1 (ty : Nat → ClassId) (ad : Nat → Nat) (q : dK) (v : Int32) : (wF ty ad q).set 1 (ad 1, .inr (6, [.ref (ad 2), .int v, .int (q.1 1 2), .int (q.1 1 3), .ref (ad 5), .ref (ad 6), .int (q.1 1 6), .ref (ad 7), .int (q.1 1 8), .int (q.1 1 9)])) = wF ty ad (cui q 1 1 v) := rfl
theorem wF_f1_2 (ty : Nat → ClassId) (ad : Nat → Nat) (q : dK) (v : Int32) : (wF ty ad q).set 1 (ad 1, .inr (6, [.ref (ad 2), .int (q.1 1 1), .int v, .int (q.1 1 3), .ref (ad 5), .ref (ad 6), .int (q.1 1 6), .ref (ad 7), .int (q.1 1 8), .int (q.1 1 9)])) = wF ty ad (cui q 1 2 v) := rfl
theorem wF_f1_3 (ty : Nat → ClassId) (ad : Nat → Nat) (q : dK) (v : Int32) : (wF ty ad q).set 1 (ad 1, .inr (6, [.ref (ad 2), .int (q.1 1 1), .int (q.1 1 2), .int v, .ref (ad 5), .ref (ad 6), .int (q.1 1 6), .ref (ad 7), .int (q.1 1 8), .int (q.1 1 9)])) = wF ty ad (cui q 1 3 v) := rfl
theorem wF_f1_6 (ty : Nat → ClassId) (ad : Nat → Nat) (q : dK) (v : Int32) : (wF ty ad q).set 1 (ad 1, .inr (6, [.ref (ad 2), .int (q.1 1 1), .int (q.1 1 2), .int (q.1 1 3), .ref (ad 5), .ref (ad 6), .int v, .ref (ad 7), .int (q.1 1 8), .int (q.1 1 9)])) = wF ty ad (cui q 1 6 v) := rfl
theorem wF_f1_8 (ty : Nat → ClassId) (ad : Nat → Nat) (q : dK) (v : Int32) : (wF ty ad q).set 1 (ad 1, .inr (6, [.ref (ad 2), .int (q.1 1 1), .int (q.1 1 2), .int (q.1 1 3), .ref (ad 5), .ref (ad 6), .int (q.1 1 6), .ref (ad 7), .int v, .int (q.1 1 9)])) = wF ty ad (cui q 1 8 v) := rfl
theorem wF_f1_9 (ty : Nat → ClassId) (ad : Nat → Nat) (q : dK) (v : Int32) : (wF ty ad q).set 1 (ad 1, .inr (6, [.ref (ad 2), .int (q.1 1 1), .int (q.1 1 2), .int (q.1 1 3), .ref (ad 5), .ref (ad 6), .int (q.1 1 6), .ref (ad 7), .int (q.1 1 8), .int v])) = wF ty ad (cui q 1 9 v) := rfl
theorem wF_f2_2 (ty : Nat → ClassId) (ad : Nat → Nat) (q : dK) (v : Int32) : (wF ty ad q).set 2 (ad 2, .inr (8, [.ref (ad 3), .ref (ad 4), .int v, .int (q.1 2 3), .int (q.1 2 4)])) = wF ty ad (cui q 2 2 v) := rfl
theorem wF_f2_3 (ty : Nat → ClassId) (ad : Nat → Nat) (q : dK) (v : Int32) : (wF ty ad q).set 2 (ad 2, .inr (8, [.ref (ad 3), .ref (ad 4), .int (q.1 2 2), .int v, .int (q.1 2 4)])) = wF ty ad (cui q 2 3 v) := rfl
theorem wF_f2_4 (ty : Nat → ClassId) (ad : Nat → Nat) (q : dK) (v : Int32) : (wF ty ad q).set 2 (ad 2, .inr (8, [.ref (ad 3), .ref (ad 4), .int (q.1 2 2), .int (q.1 2 3), .int v])) = wF ty ad (cui q 2 4 v) := rfl
theorem wF_a3 (ty : Nat → ClassId) (ad : Nat → Nat) (q : dK) (k : Nat) (v : Int32) : (wF ty ad q).set 3 (ad 3, .inl (ty 0, 6, .inl (upd (q.1 3) k v))) = wF ty ad (cui q 3 k v) := rfl
theorem wF_a4 (ty : Nat → ClassId) (ad : Nat → Nat) (q : dK) (k : Nat) (v : Int32) : (wF ty ad q).set 4 (ad 4, .inl (ty 0, 6, .inl (upd (q.1 4) k v))) = wF ty ad (cui q 4 k v) := rfl
theorem wF_a5 (ty : Nat → ClassId) (ad : Nat → Nat) (q : dK) (k : Nat) (v : Int32) : (wF ty ad q).set 5 (ad 5, .inl (ty 0, 6, .inl (upd (q.1 5) k v))) = wF ty ad (cui q 5 k v) := rfl
theorem wF_a6 (ty : Nat → ClassId) (ad : Nat → Nat) (q : dK) (k : Nat) (v : Int32) : (wF ty ad q).set 6 (ad 6, .inl (ty 0, 6, .inl (upd (q.1 6) k v))) = wF ty ad (cui q 6 k v) := rfl
theorem wF_t7 (ty : Nat → ClassId) (ad : Nat → Nat) (q : dK) (k : Nat) (v : Int32) : (wF ty ad q).set 7 (ad 7, .inl (ty 5, 6, .inr (.inr (.inr (.inr (dLs ad (upd (q.1 7) k v))))))) = wF ty ad (cui q 7 k v) := rfl
theorem wF_a9 (ty : Nat → ClassId) (ad : Nat → Nat) (q : dK) (k : Nat) (v : Int32) : (wF ty ad q).set 9 (ad 9, .inl (ty 2, 2, .inl (upd (q.1 9) k v))) = wF ty ad (cui q 9 k v) := rfl
theorem wF_f10_2 (ty : Nat → ClassId) (ad : Nat → Nat) (q : dK) (v : Int32) : (wF ty ad q).set 10 (ad 10, .inr (0, [.ref (ad 11), .ref (ad 12), .int v, .ref (ad 13), .ref (ad 14), .int (q.1 10 5)])) = wF ty ad (cui q 10 2 v) := rfl
theorem wF_f10_5 (ty : Nat → ClassId) (ad : Nat → Nat) (q : dK) (v : Int32) : (wF ty ad q).set 10 (ad 10, .inr (0, [.ref (ad 11), .ref (ad 12), .int (q.1 10 2), .ref (ad 13), .ref (ad 14), .int v])) = wF ty ad (cui q 10 5 v) := rfl
theorem wF_a11 (ty : Nat → ClassId) (ad : Nat → Nat) (q : dK) (k : Nat) (v : Int64) : (wF ty ad q).set 11 (ad 11, .inl (ty 1, 16, .inr (.inl (vp_updL (q.2.1 11) k v)))) = wF ty ad (cul q 11 k v) := rfl
theorem wF_a12 (ty : Nat → ClassId) (ad : Nat → Nat) (q : dK) (k : Nat) (v : Int32) : (wF ty ad q).set 12 (ad 12, .inl (ty 0, 16, .inl (upd (q.1 12) k v))) = wF ty ad (cui q 12 k v) := rfl
theorem wF_a13 (ty : Nat → ClassId) (ad : Nat → Nat) (q : dK) (k : Nat) (v : Int64) : (wF ty ad q).set 13 (ad 13, .inl (ty 1, 16, .inr (.inl (vp_updL (q.2.1 13) k v)))) = wF ty ad (cul q 13 k v) := rfl
theorem wF_a14 (ty : Nat → ClassId) (ad : Nat → Nat) (q : dK) (k : Nat) (v : Int32) : (wF ty ad q).set 14 (ad 14, .inl (ty 0, 16, .inl (upd (q.1 14) k v))) = wF ty ad (cui q 14 k v) := rfl
theorem wF_f15_2 (ty : Nat → ClassId) (ad : Nat → Nat) (q : dK) (v : Int32) : (wF ty ad q).set 15 (ad 15, .inr (8, [.ref (ad 16), .ref (ad 17), .int v, .int (q.1 15 3), .int (q.1 15 4)])) = wF ty ad (cui q 15 2 v) := rfl
theorem wF_f15_3 (ty : Nat → ClassId) (ad : Nat → Nat) (q : dK) (v : Int32) : (wF ty ad q).set 15 (ad 15, .inr (8, [.ref (ad 16), .ref (ad 17), .int (q.1 15 2), .int v, .int (q.1 15 4)])) = wF ty ad (cui q 15 3 v) := rfl
theorem wF_f15_4 (ty : Nat → ClassId) (ad : Nat → Nat) (q : dK) (v : Int32) : (wF ty ad q).set 15 (ad 15, .inr (8, [.ref (ad 16), .ref (ad 17), .int (q.1 15 2), .int (q.1 15 3), .int v])) = wF ty ad (cui q 15 4 v) := rfl
theorem wF_a16 (ty : Nat → ClassId) (ad : Nat → Nat) (q : dK) (k : Nat) (v : Int32) : (wF ty ad q).set 16 (ad 16, .inl (ty 0, 6, .inl (upd (q.1 16) k v))) = wF ty ad (cui q 16 k v) := rfl
theorem wF_a17 (ty : Nat → ClassId) (ad : Nat → Nat) (q : dK) (k : Nat) (v : Int32) : (wF ty ad q).set 17 (ad 17, .inl (ty 0, 6, .inl (upd (q.1 17) k v))) = wF ty ad (cui q 17 k v) := rfl
theorem wF_f18_1 (ty : Nat → ClassId) (ad : Nat → Nat) (q : dK) (v : Int32) : (wF ty ad q).set 18 (ad 18, .inr (2, [.ref (ad 19), .int v])) = wF ty ad (cui q 18 1 v) := rfl
theorem wF_a19 (ty : Nat → ClassId) (ad : Nat → Nat) (q : dK) (k : Nat) (v : Int32) : (wF ty ad q).set 19 (ad 19, .inl (ty 0, 64, .inl (upd (q.1 19) k v))) = wF ty ad (cui q 19 k v) := rfl
theorem wF_f20_2 (ty : Nat → ClassId) (ad : Nat → Nat) (q : dK) (v : Int32) : (wF ty ad q).set 20 (ad 20, .inr (1, [.ref (ad 18), .ref (ad 21), dLw ad v])) = wF ty ad (cui q 20 2 v) := rfl
theorem wF_a21 (ty : Nat → ClassId) (ad : Nat → Nat) (q : dK) (k : Nat) (v : Int32) : (wF ty ad q).set 21 (ad 21, .inl (ty 0, 9, .inl (upd (q.1 21) k v))) = wF ty ad (cui q 21 k v) := rfl
theorem wF_f22_2 (ty : Nat → ClassId) (ad : Nat → Nat) (q : dK) (v : Int32) : (wF ty ad q).set 22 (ad 22, .inr (5, [.ref (ad 18), .ref (ad 23), .int v, .int (q.1 22 3)])) = wF ty ad (cui q 22 2 v) := rfl
theorem wF_f22_3 (ty : Nat → ClassId) (ad : Nat → Nat) (q : dK) (v : Int32) : (wF ty ad q).set 22 (ad 22, .inr (5, [.ref (ad 18), .ref (ad 23), .int (q.1 22 2), .int v])) = wF ty ad (cui q 22 3 v) := rfl
theorem wF_a23 (ty : Nat → ClassId) (ad : Nat → Nat) (q : dK) (k : Nat) (v : Int32) : (wF ty ad q).set 23 (ad 23, .inl (ty 0, 17, .inl (upd (q.1 23) k v))) = wF ty ad (cui q 23 k v) := rfl
theorem wF_f24_0 (ty : Nat → ClassId) (ad : Nat → Nat) (q : dK) (v : Int32) : (wF ty ad q).set 24 (ad 24, .inr (4, [dN (ad 46) v, .int (q.1 24 1), .int (q.1 24 2), dN (ad 25) (q.1 24 3), .int (q.1 24 4), .int (q.1 24 5), .int (q.1 24 6), .int (q.1 24 7), .int (q.1 24 8), .int (q.1 24 9), .int (q.1 24 10)])) = wF ty ad (cui q 24 0 v) := rfl
theorem wF_f24_1 (ty : Nat → ClassId) (ad : Nat → Nat) (q : dK) (v : Int32) : (wF ty ad q).set 24 (ad 24, .inr (4, [dN (ad 46) (q.1 24 0), .int v, .int (q.1 24 2), dN (ad 25) (q.1 24 3), .int (q.1 24 4), .int (q.1 24 5), .int (q.1 24 6), .int (q.1 24 7), .int (q.1 24 8), .int (q.1 24 9), .int (q.1 24 10)])) = wF ty ad (cui q 24 1 v) := rfl
theorem wF_f24_2 (ty : Nat → ClassId) (ad : Nat → Nat) (q : dK) (v : Int32) : (wF ty ad q).set 24 (ad 24, .inr (4, [dN (ad 46) (q.1 24 0), .int (q.1 24 1), .int v, dN (ad 25) (q.1 24 3), .int (q.1 24 4), .int (q.1 24 5), .int (q.1 24 6), .int (q.1 24 7), .int (q.1 24 8), .int (q.1 24 9), .int (q.1 24 10)])) = wF ty ad (cui q 24 2 v) := rfl
theorem wF_f24_3 (ty : Nat → ClassId) (ad : Nat → Nat) (q : dK) (v : Int32) : (wF ty ad q).set 24 (ad 24, .inr (4, [dN (ad 46) (q.1 24 0), .int (q.1 24 1), .int (q.1 24 2), dN (ad 25) v, .int (q.1 24 4), .int (q.1 24 5), .int (q.1 24 6), .int (q.1 24 7), .int (q.1 24 8), .int (q.1 24 9), .int (q.1 24 10)])) = wF ty ad (cui q 24 3 v) := rfl
theorem wF_f24_4 (ty : Nat → ClassId) (ad : Nat → Nat) (q : dK) (v : Int32) : (wF ty ad q).set 24 (ad 24, .inr (4, [dN (ad 46) (q.1 24 0), .int (q.1 24 1), .int (q.1 24 2), dN (ad 25) (q.1 24 3), .int v, .int (q.1 24 5), .int (q.1 24 6), .int (q.1 24 7), .int (q.1 24 8), .int (q.1 24 9), .int (q.1 24 10)])) = wF ty ad (cui q 24 4 v) := rfl
theorem wF_f24_5 (ty : Nat → ClassId) (ad : Nat → Nat) (q : dK) (v : Int32) : (wF ty ad q).set 24 (ad 24, .inr (4, [dN (ad 46) (q.1 24 0), .int (q.1 24 1), .int (q.1 24 2), dN (ad 25) (q.1 24 3), .int (q.1 24 4), .int v, .int (q.1 24 6), .int (q.1 24 7), .int (q.1 24 8), .int (q.1 24 9), .int (q.1 24 10)])) = wF ty ad (cui q 24 5 v) := rfl
theorem wF_f24_6 (ty : Nat → ClassId) (ad : Nat → Nat) (q : dK) (v : Int32) : (wF ty ad q).set 24 (ad 24, .inr (4, [dN (ad 46) (q.1 24 0), .int (q.1 24 1), .int (q.1 24 2), dN (ad 25) (q.1 24 3), .int (q.1 24 4), .int (q.1 24 5), .int v, .int (q.1 24 7), .int (q.1 24 8), .int (q.1 24 9), .int (q.1 24 10)])) = wF ty ad (cui q 24 6 v) := rfl
theorem wF_f24_7 (ty : Nat → ClassId) (ad : Nat → Nat) (q : dK) (v : Int32) : (wF ty ad q).set 24 (ad 24, .inr (4, [dN (ad 46) (q.1 24 0), .int (q.1 24 1), .int (q.1 24 2), dN (ad 25) (q.1 24 3), .int (q.1 24 4), .int (q.1 24 5), .int (q.1 24 6), .int v, .int (q.1 24 8), .int (q.1 24 9), .int (q.1 24 10)])) = wF ty ad (cui q 24 7 v) := rfl
theorem wF_f24_8 (ty : Nat → ClassId) (ad : Nat → Nat) (q : dK) (v : Int32) : (wF ty ad q).set 24 (ad 24, .inr (4, [dN (ad 46) (q.1 24 0), .int (q.1 24 1), .int (q.1 24 2), dN (ad 25) (q.1 24 3), .int (q.1 24 4), .int (q.1 24 5), .int (q.1 24 6), .int (q.1 24 7), .int v, .int (q.1 24 9), .int (q.1 24 10)])) = wF ty ad (cui q 24 8 v) := rfl
theorem wF_f24_9 (ty : Nat → ClassId) (ad : Nat → Nat) (q : dK) (v : Int32) : (wF ty ad q).set 24 (ad 24, .inr (4, [dN (ad 46) (q.1 24 0), .int (q.1 24 1), .int (q.1 24 2), dN (ad 25) (q.1 24 3), .int (q.1 24 4), .int (q.1 24 5), .int (q.1 24 6), .int (q.1 24 7), .int (q.1 24 8), .int v, .int (q.1 24 10)])) = wF ty ad (cui q 24 9 v) := rfl
theorem wF_f24_10 (ty : Nat → ClassId) (ad : Nat → Nat) (q : dK) (v : Int32) : (wF ty ad q).set 24 (ad 24, .inr (4, [dN (ad 46) (q.1 24 0), .int (q.1 24 1), .int (q.1 24 2), dN (ad 25) (q.1 24 3), .int (q.1 24 4), .int (q.1 24 5), .int (q.1 24 6), .int (q.1 24 7), .int (q.1 24 8), .int (q.1 24 9), .int v])) = wF ty ad (cui q 24 10 v) := rfl
theorem wF_f25_6 (ty : Nat → ClassId) (ad : Nat → Nat) (q : dK) (v : Int32) : (wF ty ad q).set 25 (ad 25, .inr (7, [.ref (ad 26), .ref (ad 27), .ref (ad 28), .ref (ad 29), .ref (ad 30), .ref (ad 31), .int v, .int (q.1 25 7)])) = wF ty ad (cui q 25 6 v) := rfl
theorem wF_f25_7 (ty : Nat → ClassId) (ad : Nat → Nat) (q : dK) (v : Int32) : (wF ty ad q).set 25 (ad 25, .inr (7, [.ref (ad 26), .ref (ad 27), .ref (ad 28), .ref (ad 29), .ref (ad 30), .ref (ad 31), .int (q.1 25 6), .int v])) = wF ty ad (cui q 25 7 v) := rfl
theorem wF_a26 (ty : Nat → ClassId) (ad : Nat → Nat) (q : dK) (k : Nat) (v : Int32) : (wF ty ad q).set 26 (ad 26, .inl (ty 0, 12, .inl (upd (q.1 26) k v))) = wF ty ad (cui q 26 k v) := rfl
theorem wF_a27 (ty : Nat → ClassId) (ad : Nat → Nat) (q : dK) (k : Nat) (v : Int32) : (wF ty ad q).set 27 (ad 27, .inl (ty 0, 12, .inl (upd (q.1 27) k v))) = wF ty ad (cui q 27 k v) := rfl
theorem wF_a28 (ty : Nat → ClassId) (ad : Nat → Nat) (q : dK) (k : Nat) (v : Int32) : (wF ty ad q).set 28 (ad 28, .inl (ty 0, 12, .inl (upd (q.1 28) k v))) = wF ty ad (cui q 28 k v) := rfl
theorem wF_a29 (ty : Nat → ClassId) (ad : Nat → Nat) (q : dK) (k : Nat) (v : Int32) : (wF ty ad q).set 29 (ad 29, .inl (ty 0, 12, .inl (upd (q.1 29) k v))) = wF ty ad (cui q 29 k v) := rfl
theorem wF_a30 (ty : Nat → ClassId) (ad : Nat → Nat) (q : dK) (k : Nat) (v : Int32) : (wF ty ad q).set 30 (ad 30, .inl (ty 0, 12, .inl (upd (q.1 30) k v))) = wF ty ad (cui q 30 k v) := rfl
theorem wF_a31 (ty : Nat → ClassId) (ad : Nat → Nat) (q : dK) (k : Nat) (v : Int32) : (wF ty ad q).set 31 (ad 31, .inl (ty 0, 400, .inl (upd (q.1 31) k v))) = wF ty ad (cui q 31 k v) := rfl
theorem wF_f32_13 (ty : Nat → ClassId) (ad : Nat → Nat) (q : dK) (v : Int32) : (wF ty ad q).set 32 (ad 32, .inr (3, [.ref (ad 33), .ref (ad 34), .ref (ad 35), .ref (ad 36), .ref (ad 37), .ref (ad 38), .ref (ad 39), .ref (ad 40), .ref (ad 41), .ref (ad 42), .ref (ad 43), .ref (ad 44), .ref (ad 45), .int v, .int (q.1 32 14), .int (q.1 32 15), .int (q.1 32 16), .int (q.1 32 17), .int (q.1 32 18), .int (q.1 32 19)])) = wF ty ad (cui q 32 13 v) := rfl
theorem wF_f32_14 (ty : Nat → ClassId) (ad : Nat → Nat) (q : dK) (v : Int32) : (wF ty ad q).set 32 (ad 32, .inr (3, [.ref (ad 33), .ref (ad 34), .ref (ad 35), .ref (ad 36), .ref (ad 37), .ref (ad 38), .ref (ad 39), .ref (ad 40), .ref (ad 41), .ref (ad 42), .ref (ad 43), .ref (ad 44), .ref (ad 45), .int (q.1 32 13), .int v, .int (q.1 32 15), .int (q.1 32 16), .int (q.1 32 17), .int (q.1 32 18), .int (q.1 32 19)])) = wF ty ad (cui q 32 14 v) := rfl
theorem wF_f32_15 (ty : Nat → ClassId) (ad : Nat → Nat) (q : dK) (v : Int32) : (wF ty ad q).set 32 (ad 32, .inr (3, [.ref (ad 33), .ref (ad 34), .ref (ad 35), .ref (ad 36), .ref (ad 37), .ref (ad 38), .ref (ad 39), .ref (ad 40), .ref (ad 41), .ref (ad 42), .ref (ad 43), .ref (ad 44), .ref (ad 45), .int (q.1 32 13), .int (q.1 32 14), .int v, .int (q.1 32 16), .int (q.1 32 17), .int (q.1 32 18), .int (q.1 32 19)])) = wF ty ad (cui q 32 15 v) := rfl
theorem wF_f32_16 (ty : Nat → ClassId) (ad : Nat → Nat) (q : dK) (v : Int32) : (wF ty ad q).set 32 (ad 32, .inr (3, [.ref (ad 33), .ref (ad 34), .ref (ad 35), .ref (ad 36), .ref (ad 37), .ref (ad 38), .ref (ad 39), .ref (ad 40), .ref (ad 41), .ref (ad 42), .ref (ad 43), .ref (ad 44), .ref (ad 45), .int (q.1 32 13), .int (q.1 32 14), .int (q.1 32 15), .int v, .int (q.1 32 17), .int (q.1 32 18), .int (q.1 32 19)])) = wF ty ad (cui q 32 16 v) := rfl
theorem wF_f32_17 (ty : Nat → ClassId) (ad : Nat → Nat) (q : dK) (v : Int32) : (wF ty ad q).set 32 (ad 32, .inr (3, [.ref (ad 33), .ref (ad 34), .ref (ad 35), .ref (ad 36), .ref (ad 37), .ref (ad 38), .ref (ad 39), .ref (ad 40), .ref (ad 41), .ref (ad 42), .ref (ad 43), .ref (ad 44), .ref (ad 45), .int (q.1 32 13), .int (q.1 32 14), .int (q.1 32 15), .int (q.1 32 16), .int v, .int (q.1 32 18), .int (q.1 32 19)])) = wF ty ad (cui q 32 17 v) := rfl
theorem wF_f32_18 (ty : Nat → ClassId) (ad : Nat → Nat) (q : dK) (v : Int32) : (wF ty ad q).set 32 (ad 32, .inr (3, [.ref (ad 33), .ref (ad 34), .ref (ad 35), .ref (ad 36), .ref (ad 37), .ref (ad 38), .ref (ad 39), .ref (ad 40), .ref (ad 41), .ref (ad 42), .ref (ad 43), .ref (ad 44), .ref (ad 45), .int (q.1 32 13), .int (q.1 32 14), .int (q.1 32 15), .int (q.1 32 16), .int (q.1 32 17), .int v, .int (q.1 32 19)])) = wF ty ad (cui q 32 18 v) := rfl
theorem wF_f32_19 (ty : Nat → ClassId) (ad : Nat → Nat) (q : dK) (v : Int32) : (wF ty ad q).set 32 (ad 32, .inr (3, [.ref (ad 33), .ref (ad 34), .ref (ad 35), .ref (ad 36), .ref (ad 37), .ref (ad 38), .ref (ad 39), .ref (ad 40), .ref (ad 41), .ref (ad 42), .ref (ad 43), .ref (ad 44), .ref (ad 45), .int (q.1 32 13), .int (q.1 32 14), .int (q.1 32 15), .int (q.1 32 16), .int (q.1 32 17), .int (q.1 32 18), .int v])) = wF ty ad (cui q 32 19 v) := rfl
theorem wF_a33 (ty : Nat → ClassId) (ad : Nat → Nat) (q : dK) (k : Nat) (v : Int32) : (wF ty ad q).set 33 (ad 33, .inl (ty 0, 6, .inl (upd (q.1 33) k v))) = wF ty ad (cui q 33 k v) := rfl
theorem wF_a34 (ty : Nat → ClassId) (ad : Nat → Nat) (q : dK) (k : Nat) (v : Int32) : (wF ty ad q).set 34 (ad 34, .inl (ty 0, 6, .inl (upd (q.1 34) k v))) = wF ty ad (cui q 34 k v) := rfl
theorem wF_a35 (ty : Nat → ClassId) (ad : Nat → Nat) (q : dK) (k : Nat) (v : Int32) : (wF ty ad q).set 35 (ad 35, .inl (ty 0, 504, .inl (upd (q.1 35) k v))) = wF ty ad (cui q 35 k v) := rfl
theorem wF_a36 (ty : Nat → ClassId) (ad : Nat → Nat) (q : dK) (k : Nat) (v : Int32) : (wF ty ad q).set 36 (ad 36, .inl (ty 0, 504, .inl (upd (q.1 36) k v))) = wF ty ad (cui q 36 k v) := rfl
theorem wF_a37 (ty : Nat → ClassId) (ad : Nat → Nat) (q : dK) (k : Nat) (v : Int32) : (wF ty ad q).set 37 (ad 37, .inl (ty 0, 504, .inl (upd (q.1 37) k v))) = wF ty ad (cui q 37 k v) := rfl
theorem wF_a38 (ty : Nat → ClassId) (ad : Nat → Nat) (q : dK) (k : Nat) (v : Int32) : (wF ty ad q).set 38 (ad 38, .inl (ty 0, 100, .inl (upd (q.1 38) k v))) = wF ty ad (cui q 38 k v) := rfl
theorem wF_a39 (ty : Nat → ClassId) (ad : Nat → Nat) (q : dK) (k : Nat) (v : Int32) : (wF ty ad q).set 39 (ad 39, .inl (ty 0, (Int32.toNatClampNeg (q.1 32 100)), .inl (upd (q.1 39) k v))) = wF ty ad (cui q 39 k v) := rfl
theorem wF_a40 (ty : Nat → ClassId) (ad : Nat → Nat) (q : dK) (k : Nat) (v : Int32) : (wF ty ad q).set 40 (ad 40, .inl (ty 0, (Int32.toNatClampNeg (q.1 32 101)), .inl (upd (q.1 40) k v))) = wF ty ad (cui q 40 k v) := rfl
theorem wF_a41 (ty : Nat → ClassId) (ad : Nat → Nat) (q : dK) (k : Nat) (v : Int32) : (wF ty ad q).set 41 (ad 41, .inl (ty 0, (Int32.toNatClampNeg (q.1 32 102)), .inl (upd (q.1 41) k v))) = wF ty ad (cui q 41 k v) := rfl
theorem wF_a42 (ty : Nat → ClassId) (ad : Nat → Nat) (q : dK) (k : Nat) (v : Int32) : (wF ty ad q).set 42 (ad 42, .inl (ty 0, (Int32.toNatClampNeg (q.1 32 103)), .inl (upd (q.1 42) k v))) = wF ty ad (cui q 42 k v) := rfl
theorem wF_a43 (ty : Nat → ClassId) (ad : Nat → Nat) (q : dK) (k : Nat) (v : Int32) : (wF ty ad q).set 43 (ad 43, .inl (ty 0, (Int32.toNatClampNeg (q.1 32 104)), .inl (upd (q.1 43) k v))) = wF ty ad (cui q 43 k v) := rfl
theorem wF_a44 (ty : Nat → ClassId) (ad : Nat → Nat) (q : dK) (k : Nat) (v : Int32) : (wF ty ad q).set 44 (ad 44, .inl (ty 0, (Int32.toNatClampNeg (q.1 32 105)), .inl (upd (q.1 44) k v))) = wF ty ad (cui q 44 k v) := rfl
theorem wF_a45 (ty : Nat → ClassId) (ad : Nat → Nat) (q : dK) (k : Nat) (v : Int32) : (wF ty ad q).set 45 (ad 45, .inl (ty 0, (Int32.toNatClampNeg (q.1 32 106)), .inl (upd (q.1 45) k v))) = wF ty ad (cui q 45 k v) := rfl
theorem wF_a46 (ty : Nat → ClassId) (ad : Nat → Nat) (q : dK) (k : Nat) (v : Int32) : (wF ty ad q).set 46 (ad 46, .inl (ty 0, 400, .inl (upd (q.1 46) k v))) = wF ty ad (cui q 46 k v) := rfl
theorem wF_a47 (ty : Nat → ClassId) (ad : Nat → Nat) (q : dK) (k : Nat) (v : Int64) : (wF ty ad q).set 47 (ad 47, .inl (ty 1, 20, .inr (.inl (vp_updL (q.2.1 47) k v)))) = wF ty ad (cul q 47 k v) := rfl
theorem wF_a48 (ty : Nat → ClassId) (ad : Nat → Nat) (q : dK) (k : Nat) (v : Int32) : (wF ty ad q).set 48 (ad 48, .inl (ty 0, 7, .inl (upd (q.1 48) k v))) = wF ty ad (cui q 48 k v) := rfl
theorem wF_f49_1 (ty : Nat → ClassId) (ad : Nat → Nat) (q : dK) (v : Int32) : (wF ty ad q).set 49 (ad 49, .inr (6, [.ref (ad 50), .int v, .int (q.1 49 2), .int (q.1 49 3), .ref (ad 53), .ref (ad 54), .int (q.1 49 6), .ref (ad 55), .int (q.1 49 8), .int (q.1 49 9)])) = wF ty ad (cui q 49 1 v) := rfl
theorem wF_f49_2 (ty : Nat → ClassId) (ad : Nat → Nat) (q : dK) (v : Int32) : (wF ty ad q).set 49 (ad 49, .inr (6, [.ref (ad 50), .int (q.1 49 1), .int v, .int (q.1 49 3), .ref (ad 53), .ref (ad 54), .int (q.1 49 6), .ref (ad 55), .int (q.1 49 8), .int (q.1 49 9)])) = wF ty ad (cui q 49 2 v) := rfl
theorem wF_f49_3 (ty : Nat → ClassId) (ad : Nat → Nat) (q : dK) (v : Int32) : (wF ty ad q).set 49 (ad 49, .inr (6, [.ref (ad 50), .int (q.1 49 1), .int (q.1 49 2), .int v, .ref (ad 53), .ref (ad 54), .int (q.1 49 6), .ref (ad 55), .int (q.1 49 8), .int (q.1 49 9)])) = wF ty ad (cui q 49 3 v) := rfl
theorem wF_f49_6 (ty : Nat → ClassId) (ad : Nat → Nat) (q : dK) (v : Int32) : (wF ty ad q).set 49 (ad 49, .inr (6, [.ref (ad 50), .int (q.1 49 1), .int (q.1 49 2), .int (q.1 49 3), .ref (ad 53), .ref (ad 54), .int v, .ref (ad 55), .int (q.1 49 8), .int (q.1 49 9)])) = wF ty ad (cui q 49 6 v) := rfl
theorem wF_f49_8 (ty : Nat → ClassId) (ad : Nat → Nat) (q : dK) (v : Int32) : (wF ty ad q).set 49 (ad 49, .inr (6, [.ref (ad 50), .int (q.1 49 1), .int (q.1 49 2), .int (q.1 49 3), .ref (ad 53), .ref (ad 54), .int (q.1 49 6), .ref (ad 55), .int v, .int (q.1 49 9)])) = wF ty ad (cui q 49 8 v) := rfl
theorem wF_f49_9 (ty : Nat → ClassId) (ad : Nat → Nat) (q : dK) (v : Int32) : (wF ty ad q).set 49 (ad 49, .inr (6, [.ref (ad 50), .int (q.1 49 1), .int (q.1 49 2), .int (q.1 49 3), .ref (ad 53), .ref (ad 54), .int (q.1 49 6), .ref (ad 55), .int (q.1 49 8), .int v])) = wF ty ad (cui q 49 9 v) := rfl
theorem wF_f50_2 (ty : Nat → ClassId) (ad : Nat → Nat) (q : dK) (v : Int32) : (wF ty ad q).set 50 (ad 50, .inr (8, [.ref (ad 51), .ref (ad 52), .int v, .int (q.1 50 3), .int (q.1 50 4)])) = wF ty ad (cui q 50 2 v) := rfl
theorem wF_f50_3 (ty : Nat → ClassId) (ad : Nat → Nat) (q : dK) (v : Int32) : (wF ty ad q).set 50 (ad 50, .inr (8, [.ref (ad 51), .ref (ad 52), .int (q.1 50 2), .int v, .int (q.1 50 4)])) = wF ty ad (cui q 50 3 v) := rfl
theorem wF_f50_4 (ty : Nat → ClassId) (ad : Nat → Nat) (q : dK) (v : Int32) : (wF ty ad q).set 50 (ad 50, .inr (8, [.ref (ad 51), .ref (ad 52), .int (q.1 50 2), .int (q.1 50 3), .int v])) = wF ty ad (cui q 50 4 v) := rfl
theorem wF_a51 (ty : Nat → ClassId) (ad : Nat → Nat) (q : dK) (k : Nat) (v : Int32) : (wF ty ad q).set 51 (ad 51, .inl (ty 0, 6, .inl (upd (q.1 51) k v))) = wF ty ad (cui q 51 k v) := rfl
theorem wF_a52 (ty : Nat → ClassId) (ad : Nat → Nat) (q : dK) (k : Nat) (v : Int32) : (wF ty ad q).set 52 (ad 52, .inl (ty 0, 6, .inl (upd (q.1 52) k v))) = wF ty ad (cui q 52 k v) := rfl
theorem wF_a53 (ty : Nat → ClassId) (ad : Nat → Nat) (q : dK) (k : Nat) (v : Int32) : (wF ty ad q).set 53 (ad 53, .inl (ty 0, 6, .inl (upd (q.1 53) k v))) = wF ty ad (cui q 53 k v) := rfl
theorem wF_a54 (ty : Nat → ClassId) (ad : Nat → Nat) (q : dK) (k : Nat) (v : Int32) : (wF ty ad q).set 54 (ad 54, .inl (ty 0, 6, .inl (upd (q.1 54) k v))) = wF ty ad (cui q 54 k v) := rfl
theorem wF_t55 (ty : Nat → ClassId) (ad : Nat → Nat) (q : dK) (k : Nat) (v : Int32) : (wF ty ad q).set 55 (ad 55, .inl (ty 5, 6, .inr (.inr (.inr (.inr (dLs ad (upd (q.1 55) k v))))))) = wF ty ad (cui q 55 k v) := rfl
theorem wF_f56_1 (ty : Nat → ClassId) (ad : Nat → Nat) (q : dK) (v : Int32) : (wF ty ad q).set 56 (ad 56, .inr (6, [.ref (ad 57), .int v, .int (q.1 56 2), .int (q.1 56 3), .ref (ad 60), .ref (ad 61), .int (q.1 56 6), .ref (ad 62), .int (q.1 56 8), .int (q.1 56 9)])) = wF ty ad (cui q 56 1 v) := rfl
theorem wF_f56_2 (ty : Nat → ClassId) (ad : Nat → Nat) (q : dK) (v : Int32) : (wF ty ad q).set 56 (ad 56, .inr (6, [.ref (ad 57), .int (q.1 56 1), .int v, .int (q.1 56 3), .ref (ad 60), .ref (ad 61), .int (q.1 56 6), .ref (ad 62), .int (q.1 56 8), .int (q.1 56 9)])) = wF ty ad (cui q 56 2 v) := rfl
theorem wF_f56_3 (ty : Nat → ClassId) (ad : Nat → Nat) (q : dK) (v : Int32) : (wF ty ad q).set 56 (ad 56, .inr (6, [.ref (ad 57), .int (q.1 56 1), .int (q.1 56 2), .int v, .ref (ad 60), .ref (ad 61), .int (q.1 56 6), .ref (ad 62), .int (q.1 56 8), .int (q.1 56 9)])) = wF ty ad (cui q 56 3 v) := rfl
theorem wF_f56_6 (ty : Nat → ClassId) (ad : Nat → Nat) (q : dK) (v : Int32) : (wF ty ad q).set 56 (ad 56, .inr (6, [.ref (ad 57), .int (q.1 56 1), .int (q.1 56 2), .int (q.1 56 3), .ref (ad 60), .ref (ad 61), .int v, .ref (ad 62), .int (q.1 56 8), .int (q.1 56 9)])) = wF ty ad (cui q 56 6 v) := rfl
theorem wF_f56_8 (ty : Nat → ClassId) (ad : Nat → Nat) (q : dK) (v : Int32) : (wF ty ad q).set 56 (ad 56, .inr (6, [.ref (ad 57), .int (q.1 56 1), .int (q.1 56 2), .int (q.1 56 3), .ref (ad 60), .ref (ad 61), .int (q.1 56 6), .ref (ad 62), .int v, .int (q.1 56 9)])) = wF ty ad (cui q 56 8 v) := rfl
theorem wF_f56_9 (ty : Nat → ClassId) (ad : Nat → Nat) (q : dK) (v : Int32) : (wF ty ad q).set 56 (ad 56, .inr (6, [.ref (ad 57), .int (q.1 56 1), .int (q.1 56 2), .int (q.1 56 3), .ref (ad 60), .ref (ad 61), .int (q.1 56 6), .ref (ad 62), .int (q.1 56 8), .int v])) = wF ty ad (cui q 56 9 v) := rfl
theorem wF_f57_2 (ty : Nat → ClassId) (ad : Nat → Nat) (q : dK) (v : Int32) : (wF ty ad q).set 57 (ad 57, .inr (8, [.ref (ad 58), .ref (ad 59), .int v, .int (q.1 57 3), .int (q.1 57 4)])) = wF ty ad (cui q 57 2 v) := rfl
theorem wF_f57_3 (ty : Nat → ClassId) (ad : Nat → Nat) (q : dK) (v : Int32) : (wF ty ad q).set 57 (ad 57, .inr (8, [.ref (ad 58), .ref (ad 59), .int (q.1 57 2), .int v, .int (q.1 57 4)])) = wF ty ad (cui q 57 3 v) := rfl
theorem wF_f57_4 (ty : Nat → ClassId) (ad : Nat → Nat) (q : dK) (v : Int32) : (wF ty ad q).set 57 (ad 57, .inr (8, [.ref (ad 58), .ref (ad 59), .int (q.1 57 2), .int (q.1 57 3), .int v])) = wF ty ad (cui q 57 4 v) := rfl
theorem wF_a58 (ty : Nat → ClassId) (ad : Nat → Nat) (q : dK) (k : Nat) (v : Int32) : (wF ty ad q).set 58 (ad 58, .inl (ty 0, 6, .inl (upd (q.1 58) k v))) = wF ty ad (cui q 58 k v) := rfl
theorem wF_a59 (ty : Nat → ClassId) (ad : Nat → Nat) (q : dK) (k : Nat) (v : Int32) : (wF ty ad q).set 59 (ad 59, .inl (ty 0, 6, .inl (upd (q.1 59) k v))) = wF ty ad (cui q 59 k v) := rfl
theorem wF_a60 (ty : Nat → ClassId) (ad : Nat → Nat) (q : dK) (k : Nat) (v : Int32) : (wF ty ad q).set 60 (ad 60, .inl (ty 0, 6, .inl (upd (q.1 60) k v))) = wF ty ad (cui q 60 k v) := rfl
theorem wF_a61 (ty : Nat → ClassId) (ad : Nat → Nat) (q : dK) (k : Nat) (v : Int32) : (wF ty ad q).set 61 (ad 61, .inl (ty 0, 6, .inl (upd (q.1 61) k v))) = wF ty ad (cui q 61 k v) := rfl
theorem wF_t62 (ty : Nat → ClassId) (ad : Nat → Nat) (q : dK) (k : Nat) (v : Int32) : (wF ty ad q).set 62 (ad 62, .inl (ty 5, 6, .inr (.inr (.inr (.inr (dLs ad (upd (q.1 62) k v))))))) = wF ty ad (cui q 62 k v) := rfl
end
section
/-! rows over the class's world -/
def dTx (q : dK) (c : Int32) : dT := match q.2.2[dLi c]? with
  | some t => t
  | none => (0, 0, 0, 0, fun _ _ => 0)
def dlg (q : dK) (c : Int32) : Bool := decide (¬ c = 0 ∧ dLi c < q.2.2.length)
theorem dlg_ne {q : dK} {c : Int32} (h : dlg q c = true) : ¬ c = 0 := (of_decide_eq_true h : ¬ c = 0 ∧ dLi c < q.2.2.length).1
theorem dTx_get {q : dK} {c : Int32} (h : dlg q c = true) : q.2.2[dLi c]? = some (dTx q c) := by
  have h2 : ¬ c = 0 ∧ dLi c < q.2.2.length := of_decide_eq_true h
  unfold dTx
  cases e : q.2.2[dLi c]? with
  | none => exact absurd (List.getElem?_eq_none_iff.mp e) (by omega)
  | some t => rfl
theorem dg_lt {i : Int32} {n : Nat} (h : dg i n = true) : Int32.toNatClampNeg i < n := by
  have h2 : ¬ (i < 0 ∨ n ≤ i.toNatClampNeg) := dg_in h
  exact Nat.not_le.mp (fun z => h2 (Or.inr z))
theorem dLs_rf {ad : Nat → Nat} {f : Nat → Int32} {i : Nat} (hi : i < 6) : va_rf (dLs ad f i) = dLw ad (f i) := by
  unfold dLs dLw
  rw [if_pos hi]
  by_cases c : f i = 0
  · rw [if_pos c, if_pos c]; rfl
  · rw [if_neg c, if_neg c]; rfl
theorem dLs_up0 {ad : Nat → Nat} {f : Nat → Int32} {k : Nat} (hk : k < 6) : va_up (dLs ad f) k none = dLs ad (upd f k 0) := by
  funext i
  show (if i = k then none else dLs ad f i) = (if i < 6 then (if (if i = k then (0 : Int32) else f i) = 0 then none else some (ad (63 + 7 * dLi (if i = k then (0 : Int32) else f i)))) else none)
  by_cases c : i = k
  · rw [if_pos c, if_pos c, if_pos rfl, if_pos (by omega)]
  · rw [if_neg c, if_neg c]; rfl
theorem dLs_up {ad : Nat → Nat} {f : Nat → Int32} {k : Nat} {c : Int32} (hk : k < 6) (h : ¬ c = 0) : va_up (dLs ad f) k (some (ad (63 + 7 * dLi c))) = dLs ad (upd f k c) := by
  funext i
  show (if i = k then some (ad (63 + 7 * dLi c)) else dLs ad f i) = (if i < 6 then (if (if i = k then c else f i) = 0 then none else some (ad (63 + 7 * dLi (if i = k then c else f i)))) else none)
  by_cases c1 : i = k
  · rw [if_pos c1, if_pos c1, if_neg h, if_pos (by omega)]
  · rw [if_neg c1, if_neg c1]; rfl
/-! new rows of the paper: their addresses -/
def adu (ad : Nat → Nat) (j a : Nat) : Nat → Nat := fun i => if i = j then a else ad i
def dAg (ad ad' : Nat → Nat) : Prop := ∀ j : Nat, (j < 39 ∨ 46 ≤ j) → ad' j = ad j
theorem dAg_u {ad : Nat → Nat} {j a : Nat} (h : 39 ≤ j ∧ j < 46) : dAg ad (adu ad j a) := fun i hi => if_neg (by omega)
theorem dAg_t {ad ad1 ad2 : Nat → Nat} (h : dAg ad ad1) (h2 : dAg ad1 ad2) : dAg ad ad2 := fun i hi => (h2 i hi).trans (h i hi)
theorem dAg_s {ad ad1 : Nat → Nat} (h : dAg ad ad1) (j : Nat) (hj : (decide (j < 39) || decide (46 ≤ j)) = true) : ad j = ad1 j := by
  rw [Bool.or_eq_true, decide_eq_true_eq, decide_eq_true_eq] at hj
  exact (h j hj).symm
theorem dLw_e {ad ad' : Nat → Nat} (h : ∀ i : Nat, 63 ≤ i → ad' i = ad i) : dLw ad' = dLw ad := by
  funext c
  unfold dLw
  rw [h _ (by omega)]
theorem dLs_e {ad ad' : Nat → Nat} (h : ∀ i : Nat, 63 ≤ i → ad' i = ad i) : dLs ad' = dLs ad := by
  funext f i
  unfold dLs
  rw [h _ (by omega)]
theorem lwC_e {ty : Nat → ClassId} {ad ad' : Nat → Nat} (h : ∀ i : Nat, 63 ≤ i → ad' i = ad i) (i : Nat) (t : dT) : lwC ty ad' i t = lwC ty ad i t := by
  unfold lwC
  rw [h (63 + 7 * i) (by omega), h (63 + 7 * i + 1) (by omega), h (63 + 7 * i + 2) (by omega), h (63 + 7 * i + 3) (by omega), h (63 + 7 * i + 4) (by omega), h (63 + 7 * i + 5) (by omega), h (63 + 7 * i + 6) (by omega)]
theorem lwT_e {ty : Nat → ClassId} {ad ad' : Nat → Nat} (h : ∀ i : Nat, 63 ≤ i → ad' i = ad i) : ∀ (ts : List dT) (i : Nat), lwT ty ad' i ts = lwT ty ad i ts := by
  intro ts
  induction ts with
  | nil => intro i; rfl
  | cons t ts ih =>
    intro i
    show lwC ty ad' i t ++ lwT ty ad' (i + 1) ts = lwC ty ad i t ++ lwT ty ad (i + 1) ts
    rw [lwC_e h, ih]
theorem wF_len (ty : Nat → ClassId) (ad : Nat → Nat) (q : dK) : 63 ≤ (wF ty ad q).length := by
  show 63 ≤ (wFx ty ad q ++ lwT ty ad 0 q.2.2).length
  rw [List.length_append]
  exact Nat.le_add_right _ _
theorem wF_n39 (ty : Nat → ClassId) (ad : Nat → Nat) (q : dK) (a : Nat) (n : Int32) : ((wF ty ad q).set 32 (ad 32, .inr (3, [.ref (ad 33), .ref (ad 34), .ref (ad 35), .ref (ad 36), .ref (ad 37), .ref (ad 38), .ref a, .ref (ad 40), .ref (ad 41), .ref (ad 42), .ref (ad 43), .ref (ad 44), .ref (ad 45), .int (q.1 32 13), .int (q.1 32 14), .int (q.1 32 15), .int (q.1 32 16), .int (q.1 32 17), .int (q.1 32 18), .int (q.1 32 19)]))).set 39 (a, .inl (ty 0, Int32.toNatClampNeg n, .inl (fun _ => 0))) = wF ty (adu ad 39 a) (cnw q 39 100 n) := by
  have h : ∀ i : Nat, 63 ≤ i → adu ad 39 a i = ad i := fun i hi => if_neg (by omega)
  unfold wF
  rw [show (cnw q 39 100 n).2.2 = q.2.2 from rfl, lwT_e h, dLw_e h, dLs_e h]
  rfl
theorem wF_n40 (ty : Nat → ClassId) (ad : Nat → Nat) (q : dK) (a : Nat) (n : Int32) : ((wF ty ad q).set 32 (ad 32, .inr (3, [.ref (ad 33), .ref (ad 34), .ref (ad 35), .ref (ad 36), .ref (ad 37), .ref (ad 38), .ref (ad 39), .ref a, .ref (ad 41), .ref (ad 42), .ref (ad 43), .ref (ad 44), .ref (ad 45), .int (q.1 32 13), .int (q.1 32 14), .int (q.1 32 15), .int (q.1 32 16), .int (q.1 32 17), .int (q.1 32 18), .int (q.1 32 19)]))).set 40 (a, .inl (ty 0, Int32.toNatClampNeg n, .inl (fun _ => 0))) = wF ty (adu ad 40 a) (cnw q 40 101 n) := by
  have h : ∀ i : Nat, 63 ≤ i → adu ad 40 a i = ad i := fun i hi => if_neg (by omega)
  unfold wF
  rw [show (cnw q 40 101 n).2.2 = q.2.2 from rfl, lwT_e h, dLw_e h, dLs_e h]
  rfl
theorem wF_n41 (ty : Nat → ClassId) (ad : Nat → Nat) (q : dK) (a : Nat) (n : Int32) : ((wF ty ad q).set 32 (ad 32, .inr (3, [.ref (ad 33), .ref (ad 34), .ref (ad 35), .ref (ad 36), .ref (ad 37), .ref (ad 38), .ref (ad 39), .ref (ad 40), .ref a, .ref (ad 42), .ref (ad 43), .ref (ad 44), .ref (ad 45), .int (q.1 32 13), .int (q.1 32 14), .int (q.1 32 15), .int (q.1 32 16), .int (q.1 32 17), .int (q.1 32 18), .int (q.1 32 19)]))).set 41 (a, .inl (ty 0, Int32.toNatClampNeg n, .inl (fun _ => 0))) = wF ty (adu ad 41 a) (cnw q 41 102 n) := by
  have h : ∀ i : Nat, 63 ≤ i → adu ad 41 a i = ad i := fun i hi => if_neg (by omega)
  unfold wF
  rw [show (cnw q 41 102 n).2.2 = q.2.2 from rfl, lwT_e h, dLw_e h, dLs_e h]
  rfl
theorem wF_n42 (ty : Nat → ClassId) (ad : Nat → Nat) (q : dK) (a : Nat) (n : Int32) : ((wF ty ad q).set 32 (ad 32, .inr (3, [.ref (ad 33), .ref (ad 34), .ref (ad 35), .ref (ad 36), .ref (ad 37), .ref (ad 38), .ref (ad 39), .ref (ad 40), .ref (ad 41), .ref a, .ref (ad 43), .ref (ad 44), .ref (ad 45), .int (q.1 32 13), .int (q.1 32 14), .int (q.1 32 15), .int (q.1 32 16), .int (q.1 32 17), .int (q.1 32 18), .int (q.1 32 19)]))).set 42 (a, .inl (ty 0, Int32.toNatClampNeg n, .inl (fun _ => 0))) = wF ty (adu ad 42 a) (cnw q 42 103 n) := by
  have h : ∀ i : Nat, 63 ≤ i → adu ad 42 a i = ad i := fun i hi => if_neg (by omega)
  unfold wF
  rw [show (cnw q 42 103 n).2.2 = q.2.2 from rfl, lwT_e h, dLw_e h, dLs_e h]
  rfl
theorem wF_n43 (ty : Nat → ClassId) (ad : Nat → Nat) (q : dK) (a : Nat) (n : Int32) : ((wF ty ad q).set 32 (ad 32, .inr (3, [.ref (ad 33), .ref (ad 34), .ref (ad 35), .ref (ad 36), .ref (ad 37), .ref (ad 38), .ref (ad 39), .ref (ad 40), .ref (ad 41), .ref (ad 42), .ref a, .ref (ad 44), .ref (ad 45), .int (q.1 32 13), .int (q.1 32 14), .int (q.1 32 15), .int (q.1 32 16), .int (q.1 32 17), .int (q.1 32 18), .int (q.1 32 19)]))).set 43 (a, .inl (ty 0, Int32.toNatClampNeg n, .inl (fun _ => 0))) = wF ty (adu ad 43 a) (cnw q 43 104 n) := by
  have h : ∀ i : Nat, 63 ≤ i → adu ad 43 a i = ad i := fun i hi => if_neg (by omega)
  unfold wF
  rw [show (cnw q 43 104 n).2.2 = q.2.2 from rfl, lwT_e h, dLw_e h, dLs_e h]
  rfl
theorem wF_n44 (ty : Nat → ClassId) (ad : Nat → Nat) (q : dK) (a : Nat) (n : Int32) : ((wF ty ad q).set 32 (ad 32, .inr (3, [.ref (ad 33), .ref (ad 34), .ref (ad 35), .ref (ad 36), .ref (ad 37), .ref (ad 38), .ref (ad 39), .ref (ad 40), .ref (ad 41), .ref (ad 42), .ref (ad 43), .ref a, .ref (ad 45), .int (q.1 32 13), .int (q.1 32 14), .int (q.1 32 15), .int (q.1 32 16), .int (q.1 32 17), .int (q.1 32 18), .int (q.1 32 19)]))).set 44 (a, .inl (ty 0, Int32.toNatClampNeg n, .inl (fun _ => 0))) = wF ty (adu ad 44 a) (cnw q 44 105 n) := by
  have h : ∀ i : Nat, 63 ≤ i → adu ad 44 a i = ad i := fun i hi => if_neg (by omega)
  unfold wF
  rw [show (cnw q 44 105 n).2.2 = q.2.2 from rfl, lwT_e h, dLw_e h, dLs_e h]
  rfl
theorem wF_n45 (ty : Nat → ClassId) (ad : Nat → Nat) (q : dK) (a : Nat) (n : Int32) : ((wF ty ad q).set 32 (ad 32, .inr (3, [.ref (ad 33), .ref (ad 34), .ref (ad 35), .ref (ad 36), .ref (ad 37), .ref (ad 38), .ref (ad 39), .ref (ad 40), .ref (ad 41), .ref (ad 42), .ref (ad 43), .ref (ad 44), .ref a, .int (q.1 32 13), .int (q.1 32 14), .int (q.1 32 15), .int (q.1 32 16), .int (q.1 32 17), .int (q.1 32 18), .int (q.1 32 19)]))).set 45 (a, .inl (ty 0, Int32.toNatClampNeg n, .inl (fun _ => 0))) = wF ty (adu ad 45 a) (cnw q 45 106 n) := by
  have h : ∀ i : Nat, 63 ≤ i → adu ad 45 a i = ad i := fun i hi => if_neg (by omega)
  unfold wF
  rw [show (cnw q 45 106 n).2.2 = q.2.2 from rfl, lwT_e h, dLw_e h, dLs_e h]
  rfl
theorem dw_newG {ws : va_W} {i j a : Nat} {o : Nat × va_E} {x : va_E} (hi : i < ws.length) (hj : j < ws.length) (hij : ¬ i = j) (k : Nat) (q : Nat × va_E) (hk : ((ws.set i o).set j (a, x))[k]? = some q) : ((ws ++ [(a, x)]).set i o)[if k = j then ws.length else k]? = some q := by
  by_cases c : k = j
  · rw [if_pos c]
    rw [c, List.getElem?_set_self (by rw [List.length_set]; exact hj)] at hk
    rw [List.getElem?_set_ne (by omega), List.getElem?_append_right (Nat.le_refl _), Nat.sub_self]
    exact hk
  · rw [if_neg c]
    rw [List.getElem?_set_ne (fun z => c z.symm)] at hk
    by_cases c2 : k = i
    · rw [c2, List.getElem?_set_self hi] at hk
      rw [c2, List.getElem?_set_self (by rw [List.length_append]; omega)]
      exact hk
    · rw [List.getElem?_set_ne (fun z => c2 z.symm)] at hk
      have hlt : k < ws.length := (List.getElem?_eq_some_iff.mp hk).1
      rw [List.getElem?_set_ne (fun z => c2 z.symm), List.getElem?_append_left hlt]
      exact hk
theorem dw_newP {D : va_G} {cl : List vw_C} {H : Heap} {ws : va_W} {i j a : Nat} {o : Nat × va_E} {x : va_E} (hi : i < ws.length) (hj : j < ws.length) (hij : ¬ i = j) (h : va_P D cl ((ws ++ [(a, x)]).set i o) H) : va_P D cl ((ws.set i o).set j (a, x)) H := h.by _ (dw_newG hi hj hij)
theorem dw_newD {A : Nat → Prop} {ws : va_W} {i j a : Nat} {o : Nat × va_E} {x : va_E} (hi : i < ws.length) (hj : j < ws.length) (hij : ¬ i = j) (h : va_D A ((ws ++ [(a, x)]).set i o)) : va_D A ((ws.set i o).set j (a, x)) := by
  refine h.by _ (dw_newG hi hj hij) (fun m n hm hn e => ?_)
  rw [List.length_set, List.length_set] at hm hn
  by_cases c1 : m = j
  · by_cases c2 : n = j
    · omega
    · rw [if_pos c1, if_neg c2] at e; omega
  · by_cases c2 : n = j
    · rw [if_neg c1, if_pos c2] at e; omega
    · rw [if_neg c1, if_neg c2] at e; exact e
theorem dLw_or (ad : Nat → Nat) (c : Int32) : dLw ad c = .null ∨ ∃ a : Nat, dLw ad c = .ref a := by
  unfold dLw
  by_cases h : c = 0
  · rw [if_pos h]; exact Or.inl rfl
  · rw [if_neg h]; exact Or.inr ⟨_, rfl⟩
theorem lwT_get {ty : Nat → ClassId} {ad : Nat → Nat} : ∀ (ts : List dT) (i k j : Nat) (t : dT), ts[k]? = some t → j < 7 → (lwT ty ad i ts)[7 * k + j]? = (lwC ty ad (i + k) t)[j]? := by
  intro ts
  induction ts with
  | nil => intro i k j t h; cases h
  | cons x xs ih =>
    intro i k j t h hj
    show (lwC ty ad i x ++ lwT ty ad (i + 1) xs)[7 * k + j]? = _
    cases k with
    | zero =>
      have ext : x = t := Option.some.inj h
      rw [← ext, List.getElem?_append_left (show 7 * 0 + j < (lwC ty ad i x).length from (by show 7 * 0 + j < 7; omega)), Nat.mul_zero, Nat.zero_add, Nat.add_zero]
    | succ k =>
      rw [List.getElem?_append_right (show (lwC ty ad i x).length ≤ 7 * (k + 1) + j from (by show 7 ≤ 7 * (k + 1) + j; omega))]
      rw [show 7 * (k + 1) + j - (lwC ty ad i x).length = 7 * k + j from (by show 7 * (k + 1) + j - 7 = _; omega), ih (i + 1) k j t h hj, show i + 1 + k = i + (k + 1) by omega]
theorem wF_app (ty : Nat → ClassId) (ad : Nat → Nat) (q : dK) : wF ty ad q = wFx ty ad q ++ lwT ty ad 0 q.2.2 := rfl
theorem lw_at {ty : Nat → ClassId} {ad : Nat → Nat} {q : dK} {c : Int32} (h : dlg q c = true) (j : Nat) (hj : j < 7) : (wF ty ad q)[63 + 7 * dLi c + j]? = (lwC ty ad (dLi c) (dTx q c))[j]? := by
  rw [wF_app, List.getElem?_append_right (show (wFx ty ad q).length ≤ 63 + 7 * dLi c + j from (by show 63 ≤ 63 + 7 * dLi c + j; omega))]
  rw [show 63 + 7 * dLi c + j - (wFx ty ad q).length = 7 * dLi c + j from (by show 63 + 7 * dLi c + j - 63 = _; omega), lwT_get q.2.2 0 (dLi c) j (dTx q c) (dTx_get h) hj, Nat.zero_add]
theorem lw_o {ty : Nat → ClassId} {ad : Nat → Nat} {q : dK} {c : Int32} (h : dlg q c = true) : (wF ty ad q)[63 + 7 * dLi c]? = some (ad (63 + 7 * dLi c), .inr (7, [.ref (ad (63 + 7 * dLi c + 1)), .ref (ad (63 + 7 * dLi c + 2)), .ref (ad (63 + 7 * dLi c + 3)), .ref (ad (63 + 7 * dLi c + 4)), .ref (ad (63 + 7 * dLi c + 5)), .ref (ad (63 + 7 * dLi c + 6)), .int (dTx q c).1, .int (dTx q c).2.1])) := (lw_at h 0 (by decide)).trans rfl
theorem lw_a1 {ty : Nat → ClassId} {ad : Nat → Nat} {q : dK} {c : Int32} (h : dlg q c = true) : (wF ty ad q)[63 + 7 * dLi c + 1]? = some (ad (63 + 7 * dLi c + 1), .inl (ty 0, Int32.toNatClampNeg (dTx q c).2.2.1, .inl ((dTx q c).2.2.2.2 0))) := (lw_at h 1 (by decide)).trans rfl
theorem lw_a2 {ty : Nat → ClassId} {ad : Nat → Nat} {q : dK} {c : Int32} (h : dlg q c = true) : (wF ty ad q)[63 + 7 * dLi c + 2]? = some (ad (63 + 7 * dLi c + 2), .inl (ty 0, Int32.toNatClampNeg (dTx q c).2.2.1, .inl ((dTx q c).2.2.2.2 1))) := (lw_at h 2 (by decide)).trans rfl
theorem lw_a3 {ty : Nat → ClassId} {ad : Nat → Nat} {q : dK} {c : Int32} (h : dlg q c = true) : (wF ty ad q)[63 + 7 * dLi c + 3]? = some (ad (63 + 7 * dLi c + 3), .inl (ty 0, Int32.toNatClampNeg (dTx q c).2.2.1, .inl ((dTx q c).2.2.2.2 2))) := (lw_at h 3 (by decide)).trans rfl
theorem lw_a4 {ty : Nat → ClassId} {ad : Nat → Nat} {q : dK} {c : Int32} (h : dlg q c = true) : (wF ty ad q)[63 + 7 * dLi c + 4]? = some (ad (63 + 7 * dLi c + 4), .inl (ty 0, Int32.toNatClampNeg (dTx q c).2.2.1, .inl ((dTx q c).2.2.2.2 3))) := (lw_at h 4 (by decide)).trans rfl
theorem lw_a5 {ty : Nat → ClassId} {ad : Nat → Nat} {q : dK} {c : Int32} (h : dlg q c = true) : (wF ty ad q)[63 + 7 * dLi c + 5]? = some (ad (63 + 7 * dLi c + 5), .inl (ty 0, Int32.toNatClampNeg (dTx q c).2.2.1, .inl ((dTx q c).2.2.2.2 4))) := (lw_at h 5 (by decide)).trans rfl
theorem lw_a6 {ty : Nat → ClassId} {ad : Nat → Nat} {q : dK} {c : Int32} (h : dlg q c = true) : (wF ty ad q)[63 + 7 * dLi c + 6]? = some (ad (63 + 7 * dLi c + 6), .inl (ty 0, Int32.toNatClampNeg (dTx q c).2.2.2.1, .inl ((dTx q c).2.2.2.2 5))) := (lw_at h 6 (by decide)).trans rfl
/-! stores into a law's text -/
def ctm (q : dK) (c : Int32) (g : dT → dT) : dK := (q.1, q.2.1, q.2.2.set (dLi c) (g (dTx q c)))
def clf6 (q : dK) (c v : Int32) : dK := ctm q c (fun t => (v, t.2))
def clf7 (q : dK) (c v : Int32) : dK := ctm q c (fun t => (t.1, v, t.2.2))
def cla (q : dK) (c : Int32) (j i : Nat) (v : Int32) : dK := ctm q c (fun t => (t.1, t.2.1, t.2.2.1, t.2.2.2.1, fun a => if a = j then upd (t.2.2.2.2 j) i v else t.2.2.2.2 a))
def clc (q : dK) (c : Int32) (j0 j n : Nat) : dK := ctm q c (fun t => (t.1, t.2.1, t.2.2.1, t.2.2.2.1, fun a => if a = j then va_cpy (q.1 j0) (t.2.2.2.2 j) 0 0 n else t.2.2.2.2 a))
def cln (q : dK) (c k : Int32) : dK := (q.1, q.2.1, q.2.2 ++ [(0, 0, c, k, fun _ _ => 0)])
theorem set_apR {α : Type} : ∀ (s t : List α) (k : Nat) (x : α), (s ++ t).set (s.length + k) x = s ++ t.set k x := by
  intro s
  induction s with
  | nil => intro t k x; show t.set (0 + k) x = t.set k x; rw [Nat.zero_add]
  | cons a s ih =>
    intro t k x
    show (a :: (s ++ t)).set (s.length + 1 + k) x = a :: (s ++ t.set k x)
    rw [show s.length + 1 + k = (s.length + k) + 1 by omega, ← ih t k x]
    rfl
theorem set_apL {α : Type} : ∀ (s t : List α) (k : Nat) (x : α), k < s.length → (s ++ t).set k x = s.set k x ++ t := by
  intro s
  induction s with
  | nil => intro t k x h; exact absurd h (Nat.not_lt_zero k)
  | cons a s ih =>
    intro t k x h
    cases k with
    | zero => rfl
    | succ k =>
      show a :: (s ++ t).set k x = a :: (s.set k x ++ t)
      rw [ih t k x (Nat.lt_of_succ_lt_succ h)]
theorem lwT_set {ty : Nat → ClassId} {ad : Nat → Nat} : ∀ (ts : List dT) (i k j : Nat) (x : Nat × va_E) (t t2 : dT), ts[k]? = some t → j < 7 → (lwC ty ad (i + k) t).set j x = lwC ty ad (i + k) t2 → (lwT ty ad i ts).set (7 * k + j) x = lwT ty ad i (ts.set k t2) := by
  intro ts
  induction ts with
  | nil => intro i k j x t t2 h; cases h
  | cons y ys ih =>
    intro i k j x t t2 h hj hx
    show (lwC ty ad i y ++ lwT ty ad (i + 1) ys).set (7 * k + j) x = _
    cases k with
    | zero =>
      have e : y = t := Option.some.inj h
      rw [Nat.add_zero, ← e] at hx
      rw [set_apL _ _ _ _ (show 7 * 0 + j < (lwC ty ad i y).length from (by show 7 * 0 + j < 7; omega)), show 7 * 0 + j = j by omega, hx]
      rfl
    | succ k =>
      rw [show 7 * (k + 1) + j = (lwC ty ad i y).length + (7 * k + j) from (by show 7 * (k + 1) + j = 7 + (7 * k + j); omega), set_apR, ih (i + 1) k j x t t2 h hj (by rw [show i + 1 + k = i + (k + 1) by omega]; exact hx)]
      rfl
theorem lw_set {ty : Nat → ClassId} {ad : Nat → Nat} {q : dK} {c : Int32} (h : dlg q c = true) (j : Nat) (hj : j < 7) (x : Nat × va_E) (g : dT → dT) (hx : (lwC ty ad (dLi c) (dTx q c)).set j x = lwC ty ad (dLi c) (g (dTx q c))) : (wF ty ad q).set (63 + 7 * dLi c + j) x = wF ty ad (ctm q c g) := by
  show (wFx ty ad q ++ lwT ty ad 0 q.2.2).set (63 + 7 * dLi c + j) x = wFx ty ad q ++ lwT ty ad 0 (q.2.2.set (dLi c) (g (dTx q c)))
  rw [show 63 + 7 * dLi c + j = (wFx ty ad q).length + (7 * dLi c + j) from (by show 63 + 7 * dLi c + j = 63 + (7 * dLi c + j); omega), set_apR, lwT_set q.2.2 0 (dLi c) j x (dTx q c) (g (dTx q c)) (dTx_get h) hj (by rw [Nat.zero_add]; exact hx)]
/-! a new text at the end -/
def cok (q : dK) (c : Int32) : Prop := c = 0 ∨ dLi c < q.2.2.length
def dlok (q : dK) : Prop := q.2.2.length < 1000 ∧ cok q (q.1 20 2) ∧ ∀ i : Nat, i < 6 → cok q (q.1 7 i) ∧ cok q (q.1 55 i) ∧ cok q (q.1 62 i)
noncomputable def dlokB (q : dK) : Bool := @decide (dlok q) (Classical.propDecidable _)
theorem dlokB_e {q : dK} (h : dlokB q = true) : dlok q := @of_decide_eq_true (dlok q) (Classical.propDecidable _) h
theorem dlokB_i {q : dK} (h : dlok q) : dlokB q = true := @decide_eq_true (dlok q) (Classical.propDecidable _) h
def adl (ad : Nat → Nat) (n a0 a1 a2 a3 a4 a5 a6 : Nat) : Nat → Nat := fun j => if j < 63 + 7 * n then ad j else ([a0, a1, a2, a3, a4, a5, a6].getD (j - (63 + 7 * n)) 0)
def dAl (n : Nat) (ad ad' : Nat → Nat) : Prop := ∀ j : Nat, j < 63 + 7 * n → ad' j = ad j
theorem dAl_s {n : Nat} {ad ad1 : Nat → Nat} (h : dAl n ad ad1) (j : Nat) (hj : j < 63) : ad j = ad1 j := (h j (by omega)).symm
theorem lwT_app {ty : Nat → ClassId} {ad : Nat → Nat} : ∀ (ts : List dT) (i : Nat) (t : dT), lwT ty ad i (ts ++ [t]) = lwT ty ad i ts ++ lwC ty ad (i + ts.length) t := by
  intro ts
  induction ts with
  | nil => intro i t; show lwC ty ad i t ++ [] = [] ++ lwC ty ad (i + 0) t; rw [List.append_nil]; rfl
  | cons y ys ih =>
    intro i t
    show lwC ty ad i y ++ lwT ty ad (i + 1) (ys ++ [t]) = (lwC ty ad i y ++ lwT ty ad (i + 1) ys) ++ lwC ty ad (i + (ys.length + 1)) t
    rw [ih, List.append_assoc, show i + 1 + ys.length = i + (ys.length + 1) by omega]
theorem lwC_l {ty : Nat → ClassId} {ad ad' : Nat → Nat} {n : Nat} (h : dAl n ad ad') (i : Nat) (hi : i < n) (t : dT) : lwC ty ad' i t = lwC ty ad i t := by
  unfold lwC
  rw [h (63 + 7 * i) (by omega), h (63 + 7 * i + 1) (by omega), h (63 + 7 * i + 2) (by omega), h (63 + 7 * i + 3) (by omega), h (63 + 7 * i + 4) (by omega), h (63 + 7 * i + 5) (by omega), h (63 + 7 * i + 6) (by omega)]
theorem lwT_l {ty : Nat → ClassId} {ad ad' : Nat → Nat} {n : Nat} (h : dAl n ad ad') : ∀ (ts : List dT) (i : Nat), i + ts.length ≤ n → lwT ty ad' i ts = lwT ty ad i ts := by
  intro ts
  induction ts with
  | nil => intro i _; rfl
  | cons t ts ih =>
    intro i hi
    have hi2 : i + (ts.length + 1) ≤ n := hi
    show lwC ty ad' i t ++ lwT ty ad' (i + 1) ts = lwC ty ad i t ++ lwT ty ad (i + 1) ts
    rw [lwC_l h i (by omega), ih (i + 1) (by omega)]
theorem dLw_l {ad ad' : Nat → Nat} {q : dK} (h : dAl q.2.2.length ad ad') {c : Int32} (hc : cok q c) : dLw ad' c = dLw ad c := by
  unfold dLw
  by_cases z : c = 0
  · rw [if_pos z, if_pos z]
  · rw [if_neg z, if_neg z]
    rcases hc with z2 | z2
    · exact absurd z2 z
    · rw [h _ (by omega)]
theorem dLs_l {ad ad' : Nat → Nat} {q : dK} (h : dAl q.2.2.length ad ad') {f : Nat → Int32} (hc : ∀ i : Nat, i < 6 → cok q (f i)) : dLs ad' f = dLs ad f := by
  funext i
  unfold dLs
  by_cases z : i < 6
  · rw [if_pos z, if_pos z]
    by_cases z3 : f i = 0
    · rw [if_pos z3, if_pos z3]
    · rw [if_neg z3, if_neg z3]
      rcases hc i z with z2 | z2
      · exact absurd z2 z3
      · rw [h _ (by omega)]
  · rw [if_neg z, if_neg z]
theorem wFx_l {ty : Nat → ClassId} {ad ad2 : Nat → Nat} {q : dK} (h : dAl q.2.2.length ad ad2) (hq : dlok q) : wFx ty ad2 q = wFx ty ad q := by
  have e0 := dLw_l h hq.2.1
  have e1 := dLs_l h (fun i hi => (hq.2.2 i hi).1)
  have e2 := dLs_l h (fun i hi => (hq.2.2 i hi).2.1)
  have e3 := dLs_l h (fun i hi => (hq.2.2 i hi).2.2)
  unfold wFx
  rw [e0, e1, e2, e3, h 0 (by omega), h 1 (by omega), h 2 (by omega), h 3 (by omega), h 4 (by omega), h 5 (by omega), h 6 (by omega), h 7 (by omega), h 8 (by omega), h 9 (by omega), h 10 (by omega), h 11 (by omega), h 12 (by omega), h 13 (by omega), h 14 (by omega), h 15 (by omega), h 16 (by omega), h 17 (by omega), h 18 (by omega), h 19 (by omega), h 20 (by omega), h 21 (by omega), h 22 (by omega), h 23 (by omega), h 24 (by omega), h 25 (by omega), h 26 (by omega), h 27 (by omega), h 28 (by omega), h 29 (by omega), h 30 (by omega), h 31 (by omega), h 32 (by omega), h 33 (by omega), h 34 (by omega), h 35 (by omega), h 36 (by omega), h 37 (by omega), h 38 (by omega), h 39 (by omega), h 40 (by omega), h 41 (by omega), h 42 (by omega), h 43 (by omega), h 44 (by omega), h 45 (by omega), h 46 (by omega), h 47 (by omega), h 48 (by omega), h 49 (by omega), h 50 (by omega), h 51 (by omega), h 52 (by omega), h 53 (by omega), h 54 (by omega), h 55 (by omega), h 56 (by omega), h 57 (by omega), h 58 (by omega), h 59 (by omega), h 60 (by omega), h 61 (by omega), h 62 (by omega)]
theorem dLi_of {n : Nat} (h : n < 1000) : dLi (Int32.ofNat (n + 1)) = n := by
  have e : Int32.toNatClampNeg (Int32.ofNat (n + 1)) = n + 1 := nI_clamp (n := n + 1) (by omega)
  unfold dLi
  omega
theorem nd1 (n : Nat) : va_nd [n] = true := dw_nd_of [n] (by rw [List.pairwise_cons]; exact ⟨fun a h => absurd h List.not_mem_nil, List.Pairwise.nil⟩)
theorem dw_lst (ws : va_W) (x : Nat × va_E) : [ws.length].map (fun i => (ws ++ [x])[i]?) = [x].map some := by
  show [(ws ++ [x])[ws.length]?] = [some x]
  rw [List.getElem?_append_right (Nat.le_refl _), Nat.sub_self]
  rfl
theorem adl_ag {ad : Nat → Nat} {n a0 a1 a2 a3 a4 a5 a6 : Nat} : dAl n ad (adl ad n a0 a1 a2 a3 a4 a5 a6) := fun j hj => if_pos hj
theorem adl_at {ad : Nat → Nat} {n a0 a1 a2 a3 a4 a5 a6 : Nat} (j : Nat) : adl ad n a0 a1 a2 a3 a4 a5 a6 (63 + 7 * n + j) = [a0, a1, a2, a3, a4, a5, a6].getD j 0 := by
  unfold adl
  rw [if_neg (by omega), show 63 + 7 * n + j - (63 + 7 * n) = j by omega]
theorem wF_cln (ty : Nat → ClassId) (ad : Nat → Nat) (q : dK) (c k : Int32) (a0 a1 a2 a3 a4 a5 a6 : Nat) (hq : dlok q) : wF ty ad q ++ [(a0, .inr (7, [.ref a1, .ref a2, .ref a3, .ref a4, .ref a5, .ref a6, .int 0, .int 0])), (a1, .inl (ty 0, Int32.toNatClampNeg c, .inl (fun _ => 0))), (a2, .inl (ty 0, Int32.toNatClampNeg c, .inl (fun _ => 0))), (a3, .inl (ty 0, Int32.toNatClampNeg c, .inl (fun _ => 0))), (a4, .inl (ty 0, Int32.toNatClampNeg c, .inl (fun _ => 0))), (a5, .inl (ty 0, Int32.toNatClampNeg c, .inl (fun _ => 0))), (a6, .inl (ty 0, Int32.toNatClampNeg k, .inl (fun _ => 0)))] = wF ty (adl ad q.2.2.length a0 a1 a2 a3 a4 a5 a6) (cln q c k) := by
  have h : dAl q.2.2.length ad (adl ad q.2.2.length a0 a1 a2 a3 a4 a5 a6) := adl_ag
  have h0 := adl_at (ad := ad) (n := q.2.2.length) (a0 := a0) (a1 := a1) (a2 := a2) (a3 := a3) (a4 := a4) (a5 := a5) (a6 := a6)
  generalize adl ad q.2.2.length a0 a1 a2 a3 a4 a5 a6 = ad2 at h h0 ⊢
  show (wFx ty ad q ++ lwT ty ad 0 q.2.2) ++ _ = wFx ty ad2 (cln q c k) ++ lwT ty ad2 0 (q.2.2 ++ [(0, 0, c, k, fun _ _ => 0)])
  rw [lwT_app, lwT_l h q.2.2 0 (by omega), List.append_assoc, Nat.zero_add]
  rw [show wFx ty ad2 (cln q c k) = wFx ty ad2 q from rfl, wFx_l h hq]
  unfold lwC
  rw [show 63 + 7 * q.2.2.length = 63 + 7 * q.2.2.length + 0 from rfl, h0 0, h0 1, h0 2, h0 3, h0 4, h0 5, h0 6]
  rfl
section DX
variable {p : Program} {l : Launch} {e : Env} {R : Room} {s : State} {m : MethodId} {args : Array Value} {below : List Frame} {meth : Method} {c : Code} {H : Heap} {locs : List Loc} {cells slots : Nat} {Q : State → Prop}
variable {pc : Nat} {ls : Array Slot} {rest st0 : List Value} {a : Array Value} {A0 : Nat → Prop} {H0 : Heap} {mc ms : Nat} {D : va_G} {ty : Nat → ClassId} {ws : va_W}
theorem dw_up {c2 s2 : Nat} {pc : Nat} {st : List Value} (hc : cells ≤ c2) (hs : slots ≤ s2) (k : W p l e R s m args below meth c H locs c2 s2 Q (F0 m pc ls st)) : W p l e R s m args below meth c H locs cells slots Q (F0 m pc ls st) := W.widen hc hs k
theorem kz_topv {x y : Value} (h : x = y) (k : W p l e R s m args below meth c H locs cells slots Q (F0 m pc ls (y :: rest))) : W p l e R s m args below meth c H locs cells slots Q (F0 m pc ls (x :: rest)) := by
  subst h
  exact k
/-- a call over the whole world whose answer is a reference or null -/
theorem dw_kq {post : Value → va_W → Prop} (hr : va_Run p l e R s m args below meth c H locs cells slots mc ms (F0 m pc ls st0) rest (kz_Q post (kz_B D ty (va_A ws H.size)) (va_A ws H.size) a) (va_A ws H.size)) (hP : va_P D vwCl ws H) (hD : va_D A0 ws) (hS : va_S A0 H0 H locs) (hA : ∀ q, H0.size ≤ q → A0 q)
    (kk : ∀ (r : Value) (u : va_W) (H1 : Heap) (locs1 : List Loc), post r u → va_P D vwCl u H1 → va_D A0 u → va_S A0 H0 H1 locs1 → W p l e R s m args below meth c H1 locs1 (cells + mc) (slots + ms) Q (F0 m (pc + 3) ls (r :: rest))) : W p l e R s m args below meth c H locs cells slots Q (F0 m pc ls st0) :=
  kz_kq (wc := ws) (wr := []) hr hP hD hS hA (List.range ws.length) [] (dw_rng ws) rfl rfl (fun _ h => absurd h List.not_mem_nil) (fun r u H1 locs1 hw hP1 hD1 hS1 => kk r u H1 locs1 hw hP1 hD1 hS1)
/-- a call over one cell of the world -/
theorem dw_kv1 {post : va_W → Prop} {j b : Nat} {x x2 : va_E} (hj : ws[j]? = some (b, x)) (hr : va_Run p l e R s m args below meth c H locs cells slots mc ms (F0 m pc ls st0) rest (va_Qv post (kz_B D ty (va_A [(b, x)] H.size)) (va_A [(b, x)] H.size) a) (va_A [(b, x)] H.size)) (hP : va_P D vwCl ws H) (hD : va_D A0 ws) (hS : va_S A0 H0 H locs) (hA : ∀ q, H0.size ≤ q → A0 q)
    (hpost : ∀ u : va_W, post u → u = [(b, x2)])
    (kk : ∀ (H1 : Heap) (locs1 : List Loc), va_P D vwCl (ws.set j (b, x2)) H1 → va_D A0 (ws.set j (b, x2)) → va_S A0 H0 H1 locs1 → W p l e R s m args below meth c H1 locs1 (cells + mc) (slots + ms) Q (F0 m (pc + 3) ls rest)) : W p l e R s m args below meth c H locs cells slots Q (F0 m pc ls st0) := by
  have hF := va_free (wc := [(b, x)]) hD hS hA [j] (by show [ws[j]?] = _; rw [hj]; rfl)
  refine va_callv hr hS (fun q _ h => hF q h) hF (fun u t H1 locs1 ht hvm hw hB hz1 hk1 hS1 => ?_)
  obtain ⟨hP1, hK1, hD1⟩ := hB
  rw [ht] at hP1
  have hu := hpost u hw
  subst hu
  refine kk H1 locs1 (fun k q hk => ?_) (hD.set hj) hS1
  have hD2 := hD.set (e := x2) hj
  by_cases c1 : k = j
  · have h0 : (ws.set j (b, x2))[j]? = some (b, x2) := by
      have hlt : j < ws.length := (List.getElem?_eq_some_iff.mp hj).1
      exact List.getElem?_set_self hlt
    rw [c1, h0] at hk
    cases hk
    exact hP1 0 _ rfl
  · have h0 : (ws.set j (b, x2))[k]? = ws[k]? := by
      have c2 : ¬ j = k := fun z => c1 z.symm
      exact List.getElem?_set_ne c2
    rw [h0] at hk
    have h2 := hP k q hk
    refine h2.kept (hk1 q.1 h2.lt (fun z => ?_))
    rcases z with ⟨k2, e2, h3⟩ | h3
    · cases k2 with
      | zero =>
        have h4 : b = q.1 := congrArg Prod.fst (Option.some.inj h3)
        exact c1 (hD.1 k j q (b, x) hk hj h4.symm)
      | succ k2 => cases h3
    · have := h2.lt
      omega
/-- a call over the last cell -/
theorem dw_kvl {post : va_W → Prop} {x : Nat × va_E} (hr : va_Run p l e R s m args below meth c H locs cells slots mc ms (F0 m pc ls st0) rest (va_Qv post (kz_B D ty (va_A [x] H.size)) (va_A [x] H.size) a) (va_A [x] H.size)) (hP : va_P D vwCl (ws ++ [x]) H) (hD : va_D A0 (ws ++ [x])) (hS : va_S A0 H0 H locs) (hA : ∀ q, H0.size ≤ q → A0 q)
    (kk : ∀ (u : va_W) (H1 : Heap) (locs1 : List Loc), post u → va_P D vwCl (ws ++ u) H1 → va_D A0 (ws ++ u) → va_S A0 H0 H1 locs1 → W p l e R s m args below meth c H1 locs1 (cells + mc) (slots + ms) Q (F0 m (pc + 3) ls rest)) : W p l e R s m args below meth c H locs cells slots Q (F0 m pc ls st0) := by
  refine kz_kv (wc := [x]) (wr := ws) hr hP hD hS hA [ws.length] (List.range ws.length) ?_ ?_ (dw_nd _) (fun i hi => ?_) kk
  · show [(ws ++ [x])[ws.length]?] = [some x]
    rw [List.getElem?_append_right (Nat.le_refl _), Nat.sub_self]
    rfl
  · rw [← dw_rng ws]
    apply List.map_congr_left
    intro i hi
    exact List.getElem?_append_left (List.mem_range.mp hi)
  · intro z
    rw [List.mem_singleton] at z
    exact absurd (List.mem_range.mp hi) (by omega)
theorem cl_lt (x : Int32) : Int32.toNatClampNeg x < 2147483648 := by
  have h1 : Int32.toNatClampNeg x = x.toInt.toNat := rfl
  have h2 := x.toInt_lt
  omega
end DX
end
section
theorem pvF_9_0 {s : State} {H : Heap} {D : va_G} {ty : Nat → ClassId} {eo : Nat → Nat} {A : Nat → Prop} {As : List Value} {locs : List Loc} {ad : Nat → Nat} {q : dK} (hK : va_K D vwCl (kzT ty) s) (hN : kz_N s) (hE : kz_E eo A s s.heap) (hP : va_P D vwCl (wF ty ad q) H) (hD : va_D A (wF ty ad q)) (hS : va_S A s.heap H locs) (hA : ∀ q, s.heap.size ≤ q → A q) : PreV s H RX9 (ad 0) (va_Pc (.ref (ad 0) :: As) (kz_pre D ty eo (wF ty ad q) H.size)) As := dw_preV (ci := 9) (q0 := 0) hK hN hE hP hD hS hA rfl rfl
theorem pvF_8_2 {s : State} {H : Heap} {D : va_G} {ty : Nat → ClassId} {eo : Nat → Nat} {A : Nat → Prop} {As : List Value} {locs : List Loc} {ad : Nat → Nat} {q : dK} (hK : va_K D vwCl (kzT ty) s) (hN : kz_N s) (hE : kz_E eo A s s.heap) (hP : va_P D vwCl (wF ty ad q) H) (hD : va_D A (wF ty ad q)) (hS : va_S A s.heap H locs) (hA : ∀ q, s.heap.size ≤ q → A q) : PreV s H RX8 (ad 2) (va_Pc (.ref (ad 2) :: As) (kz_pre D ty eo (wF ty ad q) H.size)) As := dw_preV (ci := 8) (q0 := 2) hK hN hE hP hD hS hA rfl rfl
theorem pvF_0_10 {s : State} {H : Heap} {D : va_G} {ty : Nat → ClassId} {eo : Nat → Nat} {A : Nat → Prop} {As : List Value} {locs : List Loc} {ad : Nat → Nat} {q : dK} (hK : va_K D vwCl (kzT ty) s) (hN : kz_N s) (hE : kz_E eo A s s.heap) (hP : va_P D vwCl (wF ty ad q) H) (hD : va_D A (wF ty ad q)) (hS : va_S A s.heap H locs) (hA : ∀ q, s.heap.size ≤ q → A q) : PreV s H RX0 (ad 10) (va_Pc (.ref (ad 10) :: As) (kz_pre D ty eo (wF ty ad q) H.size)) As := dw_preV (ci := 0) (q0 := 10) hK hN hE hP hD hS hA rfl rfl
theorem pvF_6_1 {s : State} {H : Heap} {D : va_G} {ty : Nat → ClassId} {eo : Nat → Nat} {A : Nat → Prop} {As : List Value} {locs : List Loc} {ad : Nat → Nat} {q : dK} (hK : va_K D vwCl (kzT ty) s) (hN : kz_N s) (hE : kz_E eo A s s.heap) (hP : va_P D vwCl (wF ty ad q) H) (hD : va_D A (wF ty ad q)) (hS : va_S A s.heap H locs) (hA : ∀ q, s.heap.size ≤ q → A q) : PreV s H RX6 (ad 1) (va_Pc (.ref (ad 1) :: As) (kz_pre D ty eo (wF ty ad q) H.size)) As := dw_preV (ci := 6) (q0 := 1) hK hN hE hP hD hS hA rfl rfl
theorem pvF_1_20 {s : State} {H : Heap} {D : va_G} {ty : Nat → ClassId} {eo : Nat → Nat} {A : Nat → Prop} {As : List Value} {locs : List Loc} {ad : Nat → Nat} {q : dK} (hK : va_K D vwCl (kzT ty) s) (hN : kz_N s) (hE : kz_E eo A s s.heap) (hP : va_P D vwCl (wF ty ad q) H) (hD : va_D A (wF ty ad q)) (hS : va_S A s.heap H locs) (hA : ∀ q, s.heap.size ≤ q → A q) : PreV s H RX1 (ad 20) (va_Pc (.ref (ad 20) :: As) (kz_pre D ty eo (wF ty ad q) H.size)) As := dw_preV (ci := 1) (q0 := 20) hK hN hE hP hD hS hA rfl rfl
theorem pvF_2_18 {s : State} {H : Heap} {D : va_G} {ty : Nat → ClassId} {eo : Nat → Nat} {A : Nat → Prop} {As : List Value} {locs : List Loc} {ad : Nat → Nat} {q : dK} (hK : va_K D vwCl (kzT ty) s) (hN : kz_N s) (hE : kz_E eo A s s.heap) (hP : va_P D vwCl (wF ty ad q) H) (hD : va_D A (wF ty ad q)) (hS : va_S A s.heap H locs) (hA : ∀ q, s.heap.size ≤ q → A q) : PreV s H RX2 (ad 18) (va_Pc (.ref (ad 18) :: As) (kz_pre D ty eo (wF ty ad q) H.size)) As := dw_preV (ci := 2) (q0 := 18) hK hN hE hP hD hS hA rfl rfl
theorem pvF_4_24 {s : State} {H : Heap} {D : va_G} {ty : Nat → ClassId} {eo : Nat → Nat} {A : Nat → Prop} {As : List Value} {locs : List Loc} {ad : Nat → Nat} {q : dK} (hK : va_K D vwCl (kzT ty) s) (hN : kz_N s) (hE : kz_E eo A s s.heap) (hP : va_P D vwCl (wF ty ad q) H) (hD : va_D A (wF ty ad q)) (hS : va_S A s.heap H locs) (hA : ∀ q, s.heap.size ≤ q → A q) : PreV s H RX4 (ad 24) (va_Pc (.ref (ad 24) :: As) (kz_pre D ty eo (wF ty ad q) H.size)) As := dw_preV (ci := 4) (q0 := 24) hK hN hE hP hD hS hA rfl rfl
theorem pvF_7_25 {s : State} {H : Heap} {D : va_G} {ty : Nat → ClassId} {eo : Nat → Nat} {A : Nat → Prop} {As : List Value} {locs : List Loc} {ad : Nat → Nat} {q : dK} (hK : va_K D vwCl (kzT ty) s) (hN : kz_N s) (hE : kz_E eo A s s.heap) (hP : va_P D vwCl (wF ty ad q) H) (hD : va_D A (wF ty ad q)) (hS : va_S A s.heap H locs) (hA : ∀ q, s.heap.size ≤ q → A q) : PreV s H RX7 (ad 25) (va_Pc (.ref (ad 25) :: As) (kz_pre D ty eo (wF ty ad q) H.size)) As := dw_preV (ci := 7) (q0 := 25) hK hN hE hP hD hS hA rfl rfl
theorem pvF_5_22 {s : State} {H : Heap} {D : va_G} {ty : Nat → ClassId} {eo : Nat → Nat} {A : Nat → Prop} {As : List Value} {locs : List Loc} {ad : Nat → Nat} {q : dK} (hK : va_K D vwCl (kzT ty) s) (hN : kz_N s) (hE : kz_E eo A s s.heap) (hP : va_P D vwCl (wF ty ad q) H) (hD : va_D A (wF ty ad q)) (hS : va_S A s.heap H locs) (hA : ∀ q, s.heap.size ≤ q → A q) : PreV s H RX5 (ad 22) (va_Pc (.ref (ad 22) :: As) (kz_pre D ty eo (wF ty ad q) H.size)) As := dw_preV (ci := 5) (q0 := 22) hK hN hE hP hD hS hA rfl rfl
theorem pvF_3_32 {s : State} {H : Heap} {D : va_G} {ty : Nat → ClassId} {eo : Nat → Nat} {A : Nat → Prop} {As : List Value} {locs : List Loc} {ad : Nat → Nat} {q : dK} (hK : va_K D vwCl (kzT ty) s) (hN : kz_N s) (hE : kz_E eo A s s.heap) (hP : va_P D vwCl (wF ty ad q) H) (hD : va_D A (wF ty ad q)) (hS : va_S A s.heap H locs) (hA : ∀ q, s.heap.size ≤ q → A q) : PreV s H RX3 (ad 32) (va_Pc (.ref (ad 32) :: As) (kz_pre D ty eo (wF ty ad q) H.size)) As := dw_preV (ci := 3) (q0 := 32) hK hN hE hP hD hS hA rfl rfl
theorem pvF_8_15 {s : State} {H : Heap} {D : va_G} {ty : Nat → ClassId} {eo : Nat → Nat} {A : Nat → Prop} {As : List Value} {locs : List Loc} {ad : Nat → Nat} {q : dK} (hK : va_K D vwCl (kzT ty) s) (hN : kz_N s) (hE : kz_E eo A s s.heap) (hP : va_P D vwCl (wF ty ad q) H) (hD : va_D A (wF ty ad q)) (hS : va_S A s.heap H locs) (hA : ∀ q, s.heap.size ≤ q → A q) : PreV s H RX8 (ad 15) (va_Pc (.ref (ad 15) :: As) (kz_pre D ty eo (wF ty ad q) H.size)) As := dw_preV (ci := 8) (q0 := 15) hK hN hE hP hD hS hA rfl rfl
theorem pvF_8_50 {s : State} {H : Heap} {D : va_G} {ty : Nat → ClassId} {eo : Nat → Nat} {A : Nat → Prop} {As : List Value} {locs : List Loc} {ad : Nat → Nat} {q : dK} (hK : va_K D vwCl (kzT ty) s) (hN : kz_N s) (hE : kz_E eo A s s.heap) (hP : va_P D vwCl (wF ty ad q) H) (hD : va_D A (wF ty ad q)) (hS : va_S A s.heap H locs) (hA : ∀ q, s.heap.size ≤ q → A q) : PreV s H RX8 (ad 50) (va_Pc (.ref (ad 50) :: As) (kz_pre D ty eo (wF ty ad q) H.size)) As := dw_preV (ci := 8) (q0 := 50) hK hN hE hP hD hS hA rfl rfl
theorem pvF_8_57 {s : State} {H : Heap} {D : va_G} {ty : Nat → ClassId} {eo : Nat → Nat} {A : Nat → Prop} {As : List Value} {locs : List Loc} {ad : Nat → Nat} {q : dK} (hK : va_K D vwCl (kzT ty) s) (hN : kz_N s) (hE : kz_E eo A s s.heap) (hP : va_P D vwCl (wF ty ad q) H) (hD : va_D A (wF ty ad q)) (hS : va_S A s.heap H locs) (hA : ∀ q, s.heap.size ≤ q → A q) : PreV s H RX8 (ad 57) (va_Pc (.ref (ad 57) :: As) (kz_pre D ty eo (wF ty ad q) H.size)) As := dw_preV (ci := 8) (q0 := 57) hK hN hE hP hD hS hA rfl rfl
theorem pvF_6_49 {s : State} {H : Heap} {D : va_G} {ty : Nat → ClassId} {eo : Nat → Nat} {A : Nat → Prop} {As : List Value} {locs : List Loc} {ad : Nat → Nat} {q : dK} (hK : va_K D vwCl (kzT ty) s) (hN : kz_N s) (hE : kz_E eo A s s.heap) (hP : va_P D vwCl (wF ty ad q) H) (hD : va_D A (wF ty ad q)) (hS : va_S A s.heap H locs) (hA : ∀ q, s.heap.size ≤ q → A q) : PreV s H RX6 (ad 49) (va_Pc (.ref (ad 49) :: As) (kz_pre D ty eo (wF ty ad q) H.size)) As := dw_preV (ci := 6) (q0 := 49) hK hN hE hP hD hS hA rfl rfl
theorem pvF_6_56 {s : State} {H : Heap} {D : va_G} {ty : Nat → ClassId} {eo : Nat → Nat} {A : Nat → Prop} {As : List Value} {locs : List Loc} {ad : Nat → Nat} {q : dK} (hK : va_K D vwCl (kzT ty) s) (hN : kz_N s) (hE : kz_E eo A s s.heap) (hP : va_P D vwCl (wF ty ad q) H) (hD : va_D A (wF ty ad q)) (hS : va_S A s.heap H locs) (hA : ∀ q, s.heap.size ≤ q → A q) : PreV s H RX6 (ad 56) (va_Pc (.ref (ad 56) :: As) (kz_pre D ty eo (wF ty ad q) H.size)) As := dw_preV (ci := 6) (q0 := 56) hK hN hE hP hD hS hA rfl rfl
end
section
theorem da9_dJ7_fill_d0a16_0 : (decode cJ7_fill_d0a16 0 = .ok (.iconst 0, 1)) ∧ (decode cJ7_fill_d0a16 1 = .ok (.istore_n 3, 1)) ∧ (decode cJ7_fill_d0a16 2 = .ok (.aload_n 0, 1)) ∧ (decode cJ7_fill_d0a16 3 = .ok (.arraylength, 1)) ∧ (decode cJ7_fill_d0a16 4 = .ok (.istore 4, 2)) ∧ (decode cJ7_fill_d0a16 6 = .ok (.iload_n 3, 1)) ∧ (decode cJ7_fill_d0a16 7 = .ok (.iload 4, 2)) ∧ (decode cJ7_fill_d0a16 9 = .ok (.if_icmp .ge 13, 3)) ∧ (decode cJ7_fill_d0a16 12 = .ok (.aload_n 0, 1)) ∧ (decode cJ7_fill_d0a16 13 = .ok (.iload_n 3, 1)) ∧ (decode cJ7_fill_d0a16 14 = .ok (.lload_n 1, 1)) ∧ (decode cJ7_fill_d0a16 15 = .ok (.lastore, 1)) ∧ (decode cJ7_fill_d0a16 16 = .ok (.iinc 3 1, 3)) ∧ (decode cJ7_fill_d0a16 19 = .ok (.goto (-13), 3)) ∧ (decode cJ7_fill_d0a16 22 = .ok (.return_, 1)) := by decide +kernel
theorem dJ7_fill_d0a16_0 : decode cJ7_fill_d0a16 0 = .ok (.iconst 0, 1) := da9_dJ7_fill_d0a16_0.1
theorem dJ7_fill_d0a16_1 : decode cJ7_fill_d0a16 1 = .ok (.istore_n 3, 1) := da9_dJ7_fill_d0a16_0.2.1
theorem dJ7_fill_d0a16_2 : decode cJ7_fill_d0a16 2 = .ok (.aload_n 0, 1) := da9_dJ7_fill_d0a16_0.2.2.1
theorem dJ7_fill_d0a16_3 : decode cJ7_fill_d0a16 3 = .ok (.arraylength, 1) := da9_dJ7_fill_d0a16_0.2.2.2.1
theorem dJ7_fill_d0a16_4 : decode cJ7_fill_d0a16 4 = .ok (.istore 4, 2) := da9_dJ7_fill_d0a16_0.2.2.2.2.1
theorem dJ7_fill_d0a16_6 : decode cJ7_fill_d0a16 6 = .ok (.iload_n 3, 1) := da9_dJ7_fill_d0a16_0.2.2.2.2.2.1
theorem dJ7_fill_d0a16_7 : decode cJ7_fill_d0a16 7 = .ok (.iload 4, 2) := da9_dJ7_fill_d0a16_0.2.2.2.2.2.2.1
theorem dJ7_fill_d0a16_9 : decode cJ7_fill_d0a16 9 = .ok (.if_icmp .ge 13, 3) := da9_dJ7_fill_d0a16_0.2.2.2.2.2.2.2.1
theorem dJ7_fill_d0a16_12 : decode cJ7_fill_d0a16 12 = .ok (.aload_n 0, 1) := da9_dJ7_fill_d0a16_0.2.2.2.2.2.2.2.2.1
theorem dJ7_fill_d0a16_13 : decode cJ7_fill_d0a16 13 = .ok (.iload_n 3, 1) := da9_dJ7_fill_d0a16_0.2.2.2.2.2.2.2.2.2.1
theorem dJ7_fill_d0a16_14 : decode cJ7_fill_d0a16 14 = .ok (.lload_n 1, 1) := da9_dJ7_fill_d0a16_0.2.2.2.2.2.2.2.2.2.2.1
theorem dJ7_fill_d0a16_15 : decode cJ7_fill_d0a16 15 = .ok (.lastore, 1) := da9_dJ7_fill_d0a16_0.2.2.2.2.2.2.2.2.2.2.2.1
theorem dJ7_fill_d0a16_16 : decode cJ7_fill_d0a16 16 = .ok (.iinc 3 1, 3) := da9_dJ7_fill_d0a16_0.2.2.2.2.2.2.2.2.2.2.2.2.1
theorem dJ7_fill_d0a16_19 : decode cJ7_fill_d0a16 19 = .ok (.goto (-13), 3) := da9_dJ7_fill_d0a16_0.2.2.2.2.2.2.2.2.2.2.2.2.2.1
theorem dJ7_fill_d0a16_22 : decode cJ7_fill_d0a16 22 = .ok (.return_, 1) := da9_dJ7_fill_d0a16_0.2.2.2.2.2.2.2.2.2.2.2.2.2.2
theorem da9_dJ7_fill_53178_0 : (decode cJ7_fill_53178 0 = .ok (.iconst 0, 1)) ∧ (decode cJ7_fill_53178 1 = .ok (.istore_n 2, 1)) ∧ (decode cJ7_fill_53178 2 = .ok (.aload_n 0, 1)) ∧ (decode cJ7_fill_53178 3 = .ok (.arraylength, 1)) ∧ (decode cJ7_fill_53178 4 = .ok (.istore_n 3, 1)) ∧ (decode cJ7_fill_53178 5 = .ok (.iload_n 2, 1)) ∧ (decode cJ7_fill_53178 6 = .ok (.iload_n 3, 1)) ∧ (decode cJ7_fill_53178 7 = .ok (.if_icmp .ge 13, 3)) ∧ (decode cJ7_fill_53178 10 = .ok (.aload_n 0, 1)) ∧ (decode cJ7_fill_53178 11 = .ok (.iload_n 2, 1)) ∧ (decode cJ7_fill_53178 12 = .ok (.iload_n 1, 1)) ∧ (decode cJ7_fill_53178 13 = .ok (.iastore, 1)) ∧ (decode cJ7_fill_53178 14 = .ok (.iinc 2 1, 3)) ∧ (decode cJ7_fill_53178 17 = .ok (.goto (-12), 3)) ∧ (decode cJ7_fill_53178 20 = .ok (.return_, 1)) := by decide +kernel
theorem dJ7_fill_53178_0 : decode cJ7_fill_53178 0 = .ok (.iconst 0, 1) := da9_dJ7_fill_53178_0.1
theorem dJ7_fill_53178_1 : decode cJ7_fill_53178 1 = .ok (.istore_n 2, 1) := da9_dJ7_fill_53178_0.2.1
theorem dJ7_fill_53178_2 : decode cJ7_fill_53178 2 = .ok (.aload_n 0, 1) := da9_dJ7_fill_53178_0.2.2.1
theorem dJ7_fill_53178_3 : decode cJ7_fill_53178 3 = .ok (.arraylength, 1) := da9_dJ7_fill_53178_0.2.2.2.1
theorem dJ7_fill_53178_4 : decode cJ7_fill_53178 4 = .ok (.istore_n 3, 1) := da9_dJ7_fill_53178_0.2.2.2.2.1
theorem dJ7_fill_53178_5 : decode cJ7_fill_53178 5 = .ok (.iload_n 2, 1) := da9_dJ7_fill_53178_0.2.2.2.2.2.1
theorem dJ7_fill_53178_6 : decode cJ7_fill_53178 6 = .ok (.iload_n 3, 1) := da9_dJ7_fill_53178_0.2.2.2.2.2.2.1
theorem dJ7_fill_53178_7 : decode cJ7_fill_53178 7 = .ok (.if_icmp .ge 13, 3) := da9_dJ7_fill_53178_0.2.2.2.2.2.2.2.1
theorem dJ7_fill_53178_10 : decode cJ7_fill_53178 10 = .ok (.aload_n 0, 1) := da9_dJ7_fill_53178_0.2.2.2.2.2.2.2.2.1
theorem dJ7_fill_53178_11 : decode cJ7_fill_53178 11 = .ok (.iload_n 2, 1) := da9_dJ7_fill_53178_0.2.2.2.2.2.2.2.2.2.1
theorem dJ7_fill_53178_12 : decode cJ7_fill_53178 12 = .ok (.iload_n 1, 1) := da9_dJ7_fill_53178_0.2.2.2.2.2.2.2.2.2.2.1
theorem dJ7_fill_53178_13 : decode cJ7_fill_53178 13 = .ok (.iastore, 1) := da9_dJ7_fill_53178_0.2.2.2.2.2.2.2.2.2.2.2.1
theorem dJ7_fill_53178_14 : decode cJ7_fill_53178 14 = .ok (.iinc 2 1, 3) := da9_dJ7_fill_53178_0.2.2.2.2.2.2.2.2.2.2.2.2.1
theorem dJ7_fill_53178_17 : decode cJ7_fill_53178 17 = .ok (.goto (-12), 3) := da9_dJ7_fill_53178_0.2.2.2.2.2.2.2.2.2.2.2.2.2.1
theorem dJ7_fill_53178_20 : decode cJ7_fill_53178 20 = .ok (.return_, 1) := da9_dJ7_fill_53178_0.2.2.2.2.2.2.2.2.2.2.2.2.2.2
end
section

set_option maxHeartbeats 4000000 in
set_option maxRecDepth 100000 in
/-- Arrays.fill: every place holds the number -/
theorem cJ7_fillI (l : Launch) (D : va_G) (ty : Nat → ClassId) (eo : Nat → Nat) (sz : Nat) (p1 p1_n : Nat) (p1_f : Nat → Int32) (p2 : Int32) (g_1 : p1_n < 2147483648) : Met l yJ7_fill_53178 wsJ7_fill_53178 ({ frames := 0, cells := 0, slots := 0, locals := 0 }) (va_Pc [.ref p1, .int p2] (kz_pre D ty eo [(p1, .inl (ty 0, p1_n, .inl p1_f))] sz)) (va_Qv (fun (u : va_W) => [(p1, .inl (ty 0, p1_n, .inl (kz_fl p1_f p1_n p2)))] = u) (kz_B D ty (va_A [(p1, .inl (ty 0, p1_n, .inl p1_f))] sz)) (va_A [(p1, .inl (ty 0, p1_n, .inl p1_f))] sz)) 0 0 (va_A [(p1, .inl (ty 0, p1_n, .inl p1_f))] sz) := by
  refine Met.ofW (cc := cJ7_fill_53178) (maxL := 4) (ret := none) (by decide) rfl ?_
  intro p e s m args below meth c s₁ B hml hv
  obtain ⟨rfl, hsz, hP, hK, hD0, hN, hE⟩ := hv
  have hx := B.exec
  have hb := B.bytes
  have hr := B.returns
  have hts := atoms_spec (ws := wsJ7_fill_53178) B.pre
  have hlocks := B.notSynchronized
  subst hsz
  have hD := hD0.self (sz := s.heap.size)
  generalize hAe : va_A [(p1, .inl (ty 0, p1_n, .inl p1_f))] s.heap.size = A at hD hE ⊢
  have hA : ∀ q : Nat, s.heap.size ≤ q → A q := fun q h => by rw [← hAe]; exact Or.inr h
  have hS : va_S A s.heap s.heap [] := va_S.rf
  have hl := lv_entry ([.ref p1, .int p2]) (n := 4) (Nat.le_of_ble_eq_true rfl)
  rw [lg_entry_eq]
  generalize (lg_sl ([.ref p1, .int p2]) ++ List.replicate (4 - (lg_sl ([.ref p1, .int p2])).length) Slot.unset).toArray = ls at hl ⊢
  have hl : lv_has ls 4 [(0, .ref p1), (1, .int p2)] := hl
  refine lv_iconst (v := 0) hx hb dJ7_fill_53178_0 (by decide) ?_
  refine lv_istore_n (lv' := [(2, .int 0), (0, .ref p1), (1, .int p2)]) hx hb dJ7_fill_53178_1 rfl hl (by decide) rfl (fun ls hl => ?_)
  refine lv_aload_n hx hb dJ7_fill_53178_2 rfl (lv_at hl 1 rfl) ?_
  refine va_alen (v := nI p1_n) hx hb hK hP 0 0 rfl rfl rfl dJ7_fill_53178_3 ?_
  refine lv_istore_n (lv' := [(3, .int (nI p1_n)), (2, .int 0), (0, .ref p1), (1, .int p2)]) hx hb dJ7_fill_53178_4 rfl hl (by decide) rfl (fun ls hl => ?_)
  refine kz_loop p1_n (fun i H locs ls => va_P D vwCl [(p1, .inl (ty 0, p1_n, .inl (kz_fl p1_f i p2)))] H ∧ va_D A [(p1, .inl (ty 0, p1_n, .inl (kz_fl p1_f i p2)))] ∧ va_S A s.heap H locs ∧ lv_has ls 4 [(2, .int (nI i)), (3, .int (nI p1_n)), (0, .ref p1), (1, .int p2)]) (fun i H locs ls hi hI ih => ?_) _ _ _ ⟨by rw [kz_fl_0]; exact hP, by rw [kz_fl_0]; exact hD, hS, lv_sub hl [1, 0, 2, 3] rfl⟩
  obtain ⟨hP, hD, hS, hl⟩ := hI
  refine lv_iload_n hx hb dJ7_fill_53178_5 rfl (lv_at hl 0 rfl) ?_
  refine lv_iload_n hx hb dJ7_fill_53178_6 rfl (lv_at hl 1 rfl) ?_
  refine lv_icmp_ge (tgt := 20) hx hb dJ7_fill_53178_7 (by decide) (fun h9 => ?_) (fun h9 => ?_)
  · have hie : i = p1_n := by
      rcases Nat.lt_or_ge i p1_n with q | q
      · exact absurd h9 (nI_ge q g_1)
      · omega
    subst hie
    exact kz_vret hx hb hr hlocks hP hK hD hS dJ7_fill_53178_20 rfl
  · have hlt : i < p1_n := by
      rcases Nat.lt_or_ge i p1_n with q | q
      · exact q
      · exact absurd (nI_le q (by omega)) h9
    refine lv_aload_n hx hb dJ7_fill_53178_10 rfl (lv_at hl 2 rfl) ?_
    refine lv_iload_n hx hb dJ7_fill_53178_11 rfl (lv_at hl 0 rfl) ?_
    refine lv_iload_n hx hb dJ7_fill_53178_12 rfl (lv_at hl 3 rfl) ?_
    refine va_iast hx hb hK hP hD hS 0 0 rfl rfl (vp_in_nI hlt g_1) dJ7_fill_53178_13 (fun H locs hP hD hS => ?_)
    rw [nI_clamp (show i < 2 ^ 31 by omega)] at hP hD
    have hP : va_P D vwCl [(p1, .inl (ty 0, p1_n, .inl (upd (kz_fl p1_f i p2) i p2)))] H := hP
    have hD : va_D A [(p1, .inl (ty 0, p1_n, .inl (upd (kz_fl p1_f i p2) i p2)))] := hD
    rw [kz_fl_s] at hP hD
    refine lv_iinc (v := nI (i + 1)) (lv' := [(2, .int (nI (i + 1))), (3, .int (nI p1_n)), (0, .ref p1), (1, .int p2)]) hx hb dJ7_fill_53178_14 hl (k := 0) rfl (nI_1 i) (by decide) rfl (fun ls hl => ?_)
    refine lv_goto (tgt := 5) hx hb dJ7_fill_53178_17 (by decide) ?_
    exact ih _ _ _ hlt ⟨hP, hD, hS, hl⟩
set_option maxHeartbeats 4000000 in
set_option maxRecDepth 100000 in
/-- Arrays.fill: every place holds the number -/
theorem cJ7_fillL (l : Launch) (D : va_G) (ty : Nat → ClassId) (eo : Nat → Nat) (sz : Nat) (p1 p1_n : Nat) (p1_f : Nat → Int64) (p2 : Int64) (g_1 : p1_n < 2147483648) : Met l yJ7_fill_d0a16 wsJ7_fill_d0a16 ({ frames := 0, cells := 0, slots := 0, locals := 0 }) (va_Pc [.ref p1, .long p2] (kz_pre D ty eo [(p1, .inl (ty 1, p1_n, .inr (.inl p1_f)))] sz)) (va_Qv (fun (u : va_W) => [(p1, .inl (ty 1, p1_n, .inr (.inl (kz_flL p1_f p1_n p2))))] = u) (kz_B D ty (va_A [(p1, .inl (ty 1, p1_n, .inr (.inl p1_f)))] sz)) (va_A [(p1, .inl (ty 1, p1_n, .inr (.inl p1_f)))] sz)) 0 0 (va_A [(p1, .inl (ty 1, p1_n, .inr (.inl p1_f)))] sz) := by
  refine Met.ofW (cc := cJ7_fill_d0a16) (maxL := 5) (ret := none) (by decide) rfl ?_
  intro p e s m args below meth c s₁ B hml hv
  obtain ⟨rfl, hsz, hP, hK, hD0, hN, hE⟩ := hv
  have hx := B.exec
  have hb := B.bytes
  have hr := B.returns
  have hts := atoms_spec (ws := wsJ7_fill_d0a16) B.pre
  have hlocks := B.notSynchronized
  subst hsz
  have hD := hD0.self (sz := s.heap.size)
  generalize hAe : va_A [(p1, .inl (ty 1, p1_n, .inr (.inl p1_f)))] s.heap.size = A at hD hE ⊢
  have hA : ∀ q : Nat, s.heap.size ≤ q → A q := fun q h => by rw [← hAe]; exact Or.inr h
  have hS : va_S A s.heap s.heap [] := va_S.rf
  have hl := lv_entry ([.ref p1, .long p2]) (n := 5) (Nat.le_of_ble_eq_true rfl)
  rw [lg_entry_eq]
  generalize (lg_sl ([.ref p1, .long p2]) ++ List.replicate (5 - (lg_sl ([.ref p1, .long p2])).length) Slot.unset).toArray = ls at hl ⊢
  have hl : lv_has ls 5 [(0, .ref p1), (1, .long p2)] := hl
  refine lv_iconst (v := 0) hx hb dJ7_fill_d0a16_0 (by decide) ?_
  refine lv_istore_n (lv' := [(3, .int 0), (0, .ref p1), (1, .long p2)]) hx hb dJ7_fill_d0a16_1 rfl hl (by decide) rfl (fun ls hl => ?_)
  refine lv_aload_n hx hb dJ7_fill_d0a16_2 rfl (lv_at hl 1 rfl) ?_
  refine va_alen (v := nI p1_n) hx hb hK hP 0 1 rfl rfl rfl dJ7_fill_d0a16_3 ?_
  refine lv_istore (lv' := [(4, .int (nI p1_n)), (3, .int 0), (0, .ref p1), (1, .long p2)]) hx hb dJ7_fill_d0a16_4 hl (by decide) rfl (fun ls hl => ?_)
  refine kz_loop p1_n (fun i H locs ls => va_P D vwCl [(p1, .inl (ty 1, p1_n, .inr (.inl (kz_flL p1_f i p2))))] H ∧ va_D A [(p1, .inl (ty 1, p1_n, .inr (.inl (kz_flL p1_f i p2))))] ∧ va_S A s.heap H locs ∧ lv_has ls 5 [(3, .int (nI i)), (4, .int (nI p1_n)), (0, .ref p1), (1, .long p2)]) (fun i H locs ls hi hI ih => ?_) _ _ _ ⟨by rw [kz_flL_0]; exact hP, by rw [kz_flL_0]; exact hD, hS, lv_sub hl [1, 0, 2, 3] rfl⟩
  obtain ⟨hP, hD, hS, hl⟩ := hI
  refine lv_iload_n hx hb dJ7_fill_d0a16_6 rfl (lv_at hl 0 rfl) ?_
  refine lv_iload hx hb dJ7_fill_d0a16_7 (lv_at hl 1 rfl) ?_
  refine lv_icmp_ge (tgt := 22) hx hb dJ7_fill_d0a16_9 (by decide) (fun h9 => ?_) (fun h9 => ?_)
  · have hie : i = p1_n := by
      rcases Nat.lt_or_ge i p1_n with q | q
      · exact absurd h9 (nI_ge q g_1)
      · omega
    subst hie
    exact kz_vret hx hb hr hlocks hP hK hD hS dJ7_fill_d0a16_22 rfl
  · have hlt : i < p1_n := by
      rcases Nat.lt_or_ge i p1_n with q | q
      · exact q
      · exact absurd (nI_le q (by omega)) h9
    refine lv_aload_n hx hb dJ7_fill_d0a16_12 rfl (lv_at hl 2 rfl) ?_
    refine lv_iload_n hx hb dJ7_fill_d0a16_13 rfl (lv_at hl 0 rfl) ?_
    refine lv_lload_n hx hb dJ7_fill_d0a16_14 rfl (lv_at hl 3 rfl) ?_
    refine va_last hx hb hK hP hD hS 0 1 rfl rfl (vp_in_nI hlt g_1) dJ7_fill_d0a16_15 (fun H locs hP hD hS => ?_)
    rw [nI_clamp (show i < 2 ^ 31 by omega)] at hP hD
    have hP : va_P D vwCl [(p1, .inl (ty 1, p1_n, .inr (.inl (vp_updL (kz_flL p1_f i p2) i p2))))] H := hP
    have hD : va_D A [(p1, .inl (ty 1, p1_n, .inr (.inl (vp_updL (kz_flL p1_f i p2) i p2))))] := hD
    rw [kz_flL_s] at hP hD
    refine lv_iinc (v := nI (i + 1)) (lv' := [(3, .int (nI (i + 1))), (4, .int (nI p1_n)), (0, .ref p1), (1, .long p2)]) hx hb dJ7_fill_d0a16_16 hl (k := 0) rfl (nI_1 i) (by decide) rfl (fun ls hl => ?_)
    refine lv_goto (tgt := 6) hx hb dJ7_fill_d0a16_19 (by decide) ?_
    exact ih _ _ _ hlt ⟨hP, hD, hS, hl⟩
end
section
set_option maxRecDepth 20000 in
theorem ggJ0_length_8abf5_J0_coder_7d493 : GoodIn wsJ0_length_8abf5 wsJ0_coder_7d493 := goodIn_r _ [6, 7, 8] rfl (by decide +kernel)
set_option maxRecDepth 20000 in
theorem gJ0_length_8abf5_J0_coder_7d493 : GoodIn wsJ0_length_8abf5 (wsV RJ0 335 RJ0 yJ0_coder_7d493 wsJ0_coder_7d493) := goodIn_app (goodIn_of _ (by decide +kernel)) ggJ0_length_8abf5_J0_coder_7d493
theorem da9_dJ0_length_8abf5_0 : (decode cJ0_length_8abf5 0 = .ok (.aload_n 0, 1)) ∧ (decode cJ0_length_8abf5 1 = .ok (.getfield 9, 3)) ∧ (decode cJ0_length_8abf5 4 = .ok (.arraylength, 1)) ∧ (decode cJ0_length_8abf5 5 = .ok (.aload_n 0, 1)) ∧ (decode cJ0_length_8abf5 6 = .ok (.invokevirtual 335, 3)) ∧ (decode cJ0_length_8abf5 9 = .ok (.ishr, 1)) ∧ (decode cJ0_length_8abf5 10 = .ok (.ireturn, 1)) := by decide +kernel
theorem dJ0_length_8abf5_0 : decode cJ0_length_8abf5 0 = .ok (.aload_n 0, 1) := da9_dJ0_length_8abf5_0.1
theorem dJ0_length_8abf5_1 : decode cJ0_length_8abf5 1 = .ok (.getfield 9, 3) := da9_dJ0_length_8abf5_0.2.1
theorem dJ0_length_8abf5_4 : decode cJ0_length_8abf5 4 = .ok (.arraylength, 1) := da9_dJ0_length_8abf5_0.2.2.1
theorem dJ0_length_8abf5_5 : decode cJ0_length_8abf5 5 = .ok (.aload_n 0, 1) := da9_dJ0_length_8abf5_0.2.2.2.1
theorem dJ0_length_8abf5_6 : decode cJ0_length_8abf5 6 = .ok (.invokevirtual 335, 3) := da9_dJ0_length_8abf5_0.2.2.2.2.1
theorem dJ0_length_8abf5_9 : decode cJ0_length_8abf5 9 = .ok (.ishr, 1) := da9_dJ0_length_8abf5_0.2.2.2.2.2.1
theorem dJ0_length_8abf5_10 : decode cJ0_length_8abf5 10 = .ok (.ireturn, 1) := da9_dJ0_length_8abf5_0.2.2.2.2.2.2
set_option maxRecDepth 20000 in
theorem ggJ0_charAt_5068e_J0_isLatin1_aae02 : GoodIn wsJ0_charAt_5068e wsJ0_isLatin1_aae02 := goodIn_r _ [6, 7, 8] rfl (by decide +kernel)
set_option maxRecDepth 20000 in
theorem gJ0_charAt_5068e_J0_isLatin1_aae02 : GoodIn wsJ0_charAt_5068e (wsV RJ0 492 RJ0 yJ0_isLatin1_aae02 wsJ0_isLatin1_aae02) := goodIn_app (goodIn_of _ (by decide +kernel)) ggJ0_charAt_5068e_J0_isLatin1_aae02
set_option maxRecDepth 20000 in
theorem ggJ0_charAt_5068e_J1_charAt_3b067 : GoodIn wsJ0_charAt_5068e wsJ1_charAt_3b067 := goodIn_r _ [12, 13, 14, 5, 15, 16, 17, 18, 19, 20] rfl (by decide +kernel)
set_option maxRecDepth 20000 in
theorem gJ0_charAt_5068e_J1_charAt_3b067 : GoodIn wsJ0_charAt_5068e (va_wsS RJ0 495 yJ1_charAt_3b067 wsJ1_charAt_3b067) := goodIn_app (goodIn_of _ (by decide +kernel)) ggJ0_charAt_5068e_J1_charAt_3b067
theorem da9_dJ0_charAt_5068e_0 : (decode cJ0_charAt_5068e 0 = .ok (.aload_n 0, 1)) ∧ (decode cJ0_charAt_5068e 1 = .ok (.invokevirtual 492, 3)) ∧ (decode cJ0_charAt_5068e 4 = .ok (.ifCond .eq 12, 3)) ∧ (decode cJ0_charAt_5068e 7 = .ok (.aload_n 0, 1)) ∧ (decode cJ0_charAt_5068e 8 = .ok (.getfield 9, 3)) ∧ (decode cJ0_charAt_5068e 11 = .ok (.iload_n 1, 1)) ∧ (decode cJ0_charAt_5068e 12 = .ok (.invokestatic 495, 3)) ∧ (decode cJ0_charAt_5068e 15 = .ok (.ireturn, 1)) := by decide +kernel
theorem dJ0_charAt_5068e_0 : decode cJ0_charAt_5068e 0 = .ok (.aload_n 0, 1) := da9_dJ0_charAt_5068e_0.1
theorem dJ0_charAt_5068e_1 : decode cJ0_charAt_5068e 1 = .ok (.invokevirtual 492, 3) := da9_dJ0_charAt_5068e_0.2.1
theorem dJ0_charAt_5068e_4 : decode cJ0_charAt_5068e 4 = .ok (.ifCond .eq 12, 3) := da9_dJ0_charAt_5068e_0.2.2.1
theorem dJ0_charAt_5068e_7 : decode cJ0_charAt_5068e 7 = .ok (.aload_n 0, 1) := da9_dJ0_charAt_5068e_0.2.2.2.1
theorem dJ0_charAt_5068e_8 : decode cJ0_charAt_5068e 8 = .ok (.getfield 9, 3) := da9_dJ0_charAt_5068e_0.2.2.2.2.1
theorem dJ0_charAt_5068e_11 : decode cJ0_charAt_5068e 11 = .ok (.iload_n 1, 1) := da9_dJ0_charAt_5068e_0.2.2.2.2.2.1
theorem dJ0_charAt_5068e_12 : decode cJ0_charAt_5068e 12 = .ok (.invokestatic 495, 3) := da9_dJ0_charAt_5068e_0.2.2.2.2.2.2.1
theorem dJ0_charAt_5068e_15 : decode cJ0_charAt_5068e 15 = .ok (.ireturn, 1) := da9_dJ0_charAt_5068e_0.2.2.2.2.2.2.2
theorem da9_dJ0_coder_7d493_0 : (decode cJ0_coder_7d493 0 = .ok (.getstatic 38, 3)) ∧ (decode cJ0_coder_7d493 3 = .ok (.ifCond .eq 10, 3)) ∧ (decode cJ0_coder_7d493 6 = .ok (.aload_n 0, 1)) ∧ (decode cJ0_coder_7d493 7 = .ok (.getfield 15, 3)) ∧ (decode cJ0_coder_7d493 10 = .ok (.goto 4, 3)) ∧ (decode cJ0_coder_7d493 14 = .ok (.ireturn, 1)) := by decide +kernel
theorem dJ0_coder_7d493_0 : decode cJ0_coder_7d493 0 = .ok (.getstatic 38, 3) := da9_dJ0_coder_7d493_0.1
theorem dJ0_coder_7d493_3 : decode cJ0_coder_7d493 3 = .ok (.ifCond .eq 10, 3) := da9_dJ0_coder_7d493_0.2.1
theorem dJ0_coder_7d493_6 : decode cJ0_coder_7d493 6 = .ok (.aload_n 0, 1) := da9_dJ0_coder_7d493_0.2.2.1
theorem dJ0_coder_7d493_7 : decode cJ0_coder_7d493 7 = .ok (.getfield 15, 3) := da9_dJ0_coder_7d493_0.2.2.2.1
theorem dJ0_coder_7d493_10 : decode cJ0_coder_7d493 10 = .ok (.goto 4, 3) := da9_dJ0_coder_7d493_0.2.2.2.2.1
theorem dJ0_coder_7d493_14 : decode cJ0_coder_7d493 14 = .ok (.ireturn, 1) := da9_dJ0_coder_7d493_0.2.2.2.2.2
theorem da9_dJ0_isLatin1_aae02_0 : (decode cJ0_isLatin1_aae02 0 = .ok (.getstatic 38, 3)) ∧ (decode cJ0_isLatin1_aae02 3 = .ok (.ifCond .eq 14, 3)) ∧ (decode cJ0_isLatin1_aae02 6 = .ok (.aload_n 0, 1)) ∧ (decode cJ0_isLatin1_aae02 7 = .ok (.getfield 15, 3)) ∧ (decode cJ0_isLatin1_aae02 10 = .ok (.ifCond .ne 7, 3)) ∧ (decode cJ0_isLatin1_aae02 13 = .ok (.iconst 1, 1)) ∧ (decode cJ0_isLatin1_aae02 14 = .ok (.goto 4, 3)) ∧ (decode cJ0_isLatin1_aae02 18 = .ok (.ireturn, 1)) := by decide +kernel
theorem dJ0_isLatin1_aae02_0 : decode cJ0_isLatin1_aae02 0 = .ok (.getstatic 38, 3) := da9_dJ0_isLatin1_aae02_0.1
theorem dJ0_isLatin1_aae02_3 : decode cJ0_isLatin1_aae02 3 = .ok (.ifCond .eq 14, 3) := da9_dJ0_isLatin1_aae02_0.2.1
theorem dJ0_isLatin1_aae02_6 : decode cJ0_isLatin1_aae02 6 = .ok (.aload_n 0, 1) := da9_dJ0_isLatin1_aae02_0.2.2.1
theorem dJ0_isLatin1_aae02_7 : decode cJ0_isLatin1_aae02 7 = .ok (.getfield 15, 3) := da9_dJ0_isLatin1_aae02_0.2.2.2.1
theorem dJ0_isLatin1_aae02_10 : decode cJ0_isLatin1_aae02 10 = .ok (.ifCond .ne 7, 3) := da9_dJ0_isLatin1_aae02_0.2.2.2.2.1
theorem dJ0_isLatin1_aae02_13 : decode cJ0_isLatin1_aae02 13 = .ok (.iconst 1, 1) := da9_dJ0_isLatin1_aae02_0.2.2.2.2.2.1
theorem dJ0_isLatin1_aae02_14 : decode cJ0_isLatin1_aae02 14 = .ok (.goto 4, 3) := da9_dJ0_isLatin1_aae02_0.2.2.2.2.2.2.1
theorem dJ0_isLatin1_aae02_18 : decode cJ0_isLatin1_aae02 18 = .ok (.ireturn, 1) := da9_dJ0_isLatin1_aae02_0.2.2.2.2.2.2.2
set_option maxRecDepth 20000 in
theorem ggJ0_checkIndex_df160_J3_checkIndex_8e157 : GoodIn wsJ0_checkIndex_df160 wsJ3_checkIndex_8e157 := goodIn_r _ [5] rfl (by decide +kernel)
set_option maxRecDepth 20000 in
theorem gJ0_checkIndex_df160_J3_checkIndex_8e157 : GoodIn wsJ0_checkIndex_df160 (va_wsS RJ0 1059 yJ3_checkIndex_8e157 wsJ3_checkIndex_8e157) := goodIn_app (goodIn_of _ (by decide +kernel)) ggJ0_checkIndex_df160_J3_checkIndex_8e157
theorem da9_dJ0_checkIndex_df160_0 : (decode cJ0_checkIndex_df160 0 = .ok (.iload_n 0, 1)) ∧ (decode cJ0_checkIndex_df160 1 = .ok (.iload_n 1, 1)) ∧ (decode cJ0_checkIndex_df160 2 = .ok (.getstatic 1053, 3)) ∧ (decode cJ0_checkIndex_df160 5 = .ok (.invokestatic 1059, 3)) ∧ (decode cJ0_checkIndex_df160 8 = .ok (.pop, 1)) ∧ (decode cJ0_checkIndex_df160 9 = .ok (.return_, 1)) := by decide +kernel
theorem dJ0_checkIndex_df160_0 : decode cJ0_checkIndex_df160 0 = .ok (.iload_n 0, 1) := da9_dJ0_checkIndex_df160_0.1
theorem dJ0_checkIndex_df160_1 : decode cJ0_checkIndex_df160 1 = .ok (.iload_n 1, 1) := da9_dJ0_checkIndex_df160_0.2.1
theorem dJ0_checkIndex_df160_2 : decode cJ0_checkIndex_df160 2 = .ok (.getstatic 1053, 3) := da9_dJ0_checkIndex_df160_0.2.2.1
theorem dJ0_checkIndex_df160_5 : decode cJ0_checkIndex_df160 5 = .ok (.invokestatic 1059, 3) := da9_dJ0_checkIndex_df160_0.2.2.2.1
theorem dJ0_checkIndex_df160_8 : decode cJ0_checkIndex_df160 8 = .ok (.pop, 1) := da9_dJ0_checkIndex_df160_0.2.2.2.2.1
theorem dJ0_checkIndex_df160_9 : decode cJ0_checkIndex_df160 9 = .ok (.return_, 1) := da9_dJ0_checkIndex_df160_0.2.2.2.2.2
set_option maxRecDepth 20000 in
theorem ggJ1_charAt_3b067_J0_checkIndex_df160 : GoodIn wsJ1_charAt_3b067 wsJ0_checkIndex_df160 := goodIn_r _ [4, 5, 6, 7, 8, 9] rfl (by decide +kernel)
set_option maxRecDepth 20000 in
theorem gJ1_charAt_3b067_J0_checkIndex_df160 : GoodIn wsJ1_charAt_3b067 (va_wsS RJ1 9 yJ0_checkIndex_df160 wsJ0_checkIndex_df160) := goodIn_app (goodIn_of _ (by decide +kernel)) ggJ1_charAt_3b067_J0_checkIndex_df160
theorem da9_dJ1_charAt_3b067_0 : (decode cJ1_charAt_3b067 0 = .ok (.iload_n 1, 1)) ∧ (decode cJ1_charAt_3b067 1 = .ok (.aload_n 0, 1)) ∧ (decode cJ1_charAt_3b067 2 = .ok (.arraylength, 1)) ∧ (decode cJ1_charAt_3b067 3 = .ok (.invokestatic 9, 3)) ∧ (decode cJ1_charAt_3b067 6 = .ok (.aload_n 0, 1)) ∧ (decode cJ1_charAt_3b067 7 = .ok (.iload_n 1, 1)) ∧ (decode cJ1_charAt_3b067 8 = .ok (.baload, 1)) ∧ (decode cJ1_charAt_3b067 9 = .ok (.sipush 255, 3)) ∧ (decode cJ1_charAt_3b067 12 = .ok (.iand, 1)) ∧ (decode cJ1_charAt_3b067 13 = .ok (.i2c, 1)) ∧ (decode cJ1_charAt_3b067 14 = .ok (.ireturn, 1)) := by decide +kernel
theorem dJ1_charAt_3b067_0 : decode cJ1_charAt_3b067 0 = .ok (.iload_n 1, 1) := da9_dJ1_charAt_3b067_0.1
theorem dJ1_charAt_3b067_1 : decode cJ1_charAt_3b067 1 = .ok (.aload_n 0, 1) := da9_dJ1_charAt_3b067_0.2.1
theorem dJ1_charAt_3b067_2 : decode cJ1_charAt_3b067 2 = .ok (.arraylength, 1) := da9_dJ1_charAt_3b067_0.2.2.1
theorem dJ1_charAt_3b067_3 : decode cJ1_charAt_3b067 3 = .ok (.invokestatic 9, 3) := da9_dJ1_charAt_3b067_0.2.2.2.1
theorem dJ1_charAt_3b067_6 : decode cJ1_charAt_3b067 6 = .ok (.aload_n 0, 1) := da9_dJ1_charAt_3b067_0.2.2.2.2.1
theorem dJ1_charAt_3b067_7 : decode cJ1_charAt_3b067 7 = .ok (.iload_n 1, 1) := da9_dJ1_charAt_3b067_0.2.2.2.2.2.1
theorem dJ1_charAt_3b067_8 : decode cJ1_charAt_3b067 8 = .ok (.baload, 1) := da9_dJ1_charAt_3b067_0.2.2.2.2.2.2.1
theorem dJ1_charAt_3b067_9 : decode cJ1_charAt_3b067 9 = .ok (.sipush 255, 3) := da9_dJ1_charAt_3b067_0.2.2.2.2.2.2.2.1
theorem dJ1_charAt_3b067_12 : decode cJ1_charAt_3b067 12 = .ok (.iand, 1) := da9_dJ1_charAt_3b067_0.2.2.2.2.2.2.2.2.1
theorem dJ1_charAt_3b067_13 : decode cJ1_charAt_3b067 13 = .ok (.i2c, 1) := da9_dJ1_charAt_3b067_0.2.2.2.2.2.2.2.2.2.1
theorem dJ1_charAt_3b067_14 : decode cJ1_charAt_3b067 14 = .ok (.ireturn, 1) := da9_dJ1_charAt_3b067_0.2.2.2.2.2.2.2.2.2.2
theorem da9_dJ3_checkIndex_8e157_0 : (decode cJ3_checkIndex_8e157 0 = .ok (.iload_n 0, 1)) ∧ (decode cJ3_checkIndex_8e157 1 = .ok (.ifCond .lt 8, 3)) ∧ (decode cJ3_checkIndex_8e157 4 = .ok (.iload_n 0, 1)) ∧ (decode cJ3_checkIndex_8e157 5 = .ok (.iload_n 1, 1)) ∧ (decode cJ3_checkIndex_8e157 6 = .ok (.if_icmp .lt 10, 3)) ∧ (decode cJ3_checkIndex_8e157 16 = .ok (.iload_n 0, 1)) ∧ (decode cJ3_checkIndex_8e157 17 = .ok (.ireturn, 1)) := by decide +kernel
theorem dJ3_checkIndex_8e157_0 : decode cJ3_checkIndex_8e157 0 = .ok (.iload_n 0, 1) := da9_dJ3_checkIndex_8e157_0.1
theorem dJ3_checkIndex_8e157_1 : decode cJ3_checkIndex_8e157 1 = .ok (.ifCond .lt 8, 3) := da9_dJ3_checkIndex_8e157_0.2.1
theorem dJ3_checkIndex_8e157_4 : decode cJ3_checkIndex_8e157 4 = .ok (.iload_n 0, 1) := da9_dJ3_checkIndex_8e157_0.2.2.1
theorem dJ3_checkIndex_8e157_5 : decode cJ3_checkIndex_8e157 5 = .ok (.iload_n 1, 1) := da9_dJ3_checkIndex_8e157_0.2.2.2.1
theorem dJ3_checkIndex_8e157_6 : decode cJ3_checkIndex_8e157 6 = .ok (.if_icmp .lt 10, 3) := da9_dJ3_checkIndex_8e157_0.2.2.2.2.1
theorem dJ3_checkIndex_8e157_16 : decode cJ3_checkIndex_8e157 16 = .ok (.iload_n 0, 1) := da9_dJ3_checkIndex_8e157_0.2.2.2.2.2.1
theorem dJ3_checkIndex_8e157_17 : decode cJ3_checkIndex_8e157 17 = .ok (.ireturn, 1) := da9_dJ3_checkIndex_8e157_0.2.2.2.2.2.2
end
section
theorem f9_wsJ0_checkIndex_df160_323 : (Cond.fieldLink RJ0 1053 "jdk/internal/util/Preconditions" "SIOOBE_FORMATTER" "Ljava/util/function/BiFunction;") ∈ wsJ0_checkIndex_df160 := by decide +kernel
theorem f9_wsJ0_isLatin1_aae02_324 : (Cond.fieldLink RJ0 38 "java/lang/String" "COMPACT_STRINGS" "Z") ∈ wsJ0_isLatin1_aae02 := by decide +kernel
theorem f9_wsJ0_isLatin1_aae02_325 : (Cond.fieldLink RJ0 15 "java/lang/String" "coder" "B") ∈ wsJ0_isLatin1_aae02 := by decide +kernel
theorem f9_wsJ0_charAt_5068e_326 : (Cond.fieldLink RJ0 9 "java/lang/String" "value" "[B") ∈ wsJ0_charAt_5068e := by decide +kernel
theorem f9_wsJ0_coder_7d493_327 : (Cond.fieldLink RJ0 38 "java/lang/String" "COMPACT_STRINGS" "Z") ∈ wsJ0_coder_7d493 := by decide +kernel
theorem f9_wsJ0_coder_7d493_328 : (Cond.fieldLink RJ0 15 "java/lang/String" "coder" "B") ∈ wsJ0_coder_7d493 := by decide +kernel
theorem f9_wsJ0_length_8abf5_329 : (Cond.fieldLink RJ0 9 "java/lang/String" "value" "[B") ∈ wsJ0_length_8abf5 := by decide +kernel
/-! the texts: their lengths, their signs -/
def chV (k : Nat) (i : Int32) : Int32 := (kzByt.getD k []).getD (Int32.toNatClampNeg i) 0
def chN (k : Nat) : Int32 := Int32.ofNat (kzLen.getD k 0)
theorem ch_ok : ∀ k : Nat, k < 12 → ∀ j : Nat, j < 47 → ((((kzByt.getD k []).getD j 0) &&& 255).toUInt32 % 65536).toInt32 = (kzByt.getD k []).getD j 0 ∧ ((kzByt.getD k []).getD j 0).toUInt32.toUInt16.toUInt32.toInt32 = (kzByt.getD k []).getD j 0 := by decide +kernel
theorem ch_len : ∀ k : Nat, k < 12 → kzLen.getD k 0 ≤ 47 ∧ Int32.toInt (chN k) = ((kzLen.getD k 0 : Nat) : Int) ∧ chN k >>> ((0 : Int32) &&& 31) = chN k := by decide +kernel
theorem ch_in {k : Nat} {i : Int32} (hk : k < 12) (h : vp_in i (kzLen.getD k 0)) : ¬ i < 0 ∧ i < chN k ∧ Int32.toNatClampNeg i < 47 := by
  have h1 : ¬ (i < 0 ∨ kzLen.getD k 0 ≤ Int32.toNatClampNeg i) := h
  obtain ⟨h2, h3, -⟩ := ch_len k hk
  have h4 : ¬ i < 0 := fun z => h1 (Or.inl z)
  have h5 : Int32.toNatClampNeg i < kzLen.getD k 0 := Nat.not_le.mp (fun z => h1 (Or.inr z))
  have h6 : Int32.toNatClampNeg i = i.toInt.toNat := rfl
  refine ⟨h4, Int32.lt_iff_toInt_lt.mpr ?_, by omega⟩
  omega
set_option maxHeartbeats 4000000 in
set_option maxRecDepth 100000 in
theorem kcJ3n (l : Launch) (D : va_G) (ty : Nat → ClassId) (eo : Nat → Nat) (sz : Nat) (i n : Int32) (h0 : ¬ i < 0) (hlt : i < n) : Met l yJ3_checkIndex_8e157 wsJ3_checkIndex_8e157 ({ frames := 0, cells := 0, slots := 0, locals := 0 }) (va_Pc [.int i, .int n, .null] (kz_pre D ty eo [] sz)) (va_Qi (fun (r : Int32) (u : va_W) => i = r ∧ [] = u) (kz_B D ty (va_A [] sz)) (va_A [] sz)) 0 0 (va_A [] sz) := by
  refine Met.ofW (cc := cJ3_checkIndex_8e157) (maxL := 3) (ret := (some .int)) (by decide) rfl ?_
  intro p e s m args below meth c s₁ B hml hv
  obtain ⟨rfl, hsz, hP, hK, hD0, hN, hE⟩ := hv
  have hx := B.exec
  have hb := B.bytes
  have hr := B.returns
  have hts := atoms_spec (ws := wsJ3_checkIndex_8e157) B.pre
  have hown : s.vm.findClass RJ3 = some m.cls := findClass_of_methodNamed B.named
  have hlocks := B.notSynchronized
  subst hsz
  have hD := hD0.self (sz := s.heap.size)
  generalize hAe : va_A [] s.heap.size = A at hD hE ⊢
  have hA : ∀ q : Nat, s.heap.size ≤ q → A q := fun q h => by rw [← hAe]; exact Or.inr h
  have hS : va_S A s.heap s.heap [] := va_S.rf
  have hl := lv_entry ([.int i, .int n, .null]) (n := 3) (Nat.le_of_ble_eq_true rfl)
  rw [lg_entry_eq]
  generalize (lg_sl ([.int i, .int n, .null]) ++ List.replicate (3 - (lg_sl ([.int i, .int n, .null])).length) Slot.unset).toArray = ls at hl ⊢
  have hl : lv_has ls 3 [(0, .int i), (1, .int n), (2, .null)] := hl
  refine lv_iload_n hx hb dJ3_checkIndex_8e157_0 rfl (lv_at hl 0 rfl) ?_
  refine lv_if_lt (tgt := 9) hx hb dJ3_checkIndex_8e157_1 (by decide) (fun h9 => absurd h9 h0) (fun _ => ?_)
  refine lv_iload_n hx hb dJ3_checkIndex_8e157_4 rfl (lv_at hl 0 rfl) ?_
  refine lv_iload_n hx hb dJ3_checkIndex_8e157_5 rfl (lv_at hl 1 rfl) ?_
  refine lv_icmp_lt (tgt := 16) hx hb dJ3_checkIndex_8e157_6 (by decide) (fun _ => ?_) (fun h9 => absurd hlt h9)
  refine lv_iload_n hx hb dJ3_checkIndex_8e157_16 rfl (lv_at hl 0 rfl) ?_
  exact kz_iret hx hb hr hlocks hP hK hD hS dJ3_checkIndex_8e157_17 ⟨rfl, rfl⟩
set_option maxHeartbeats 4000000 in
set_option maxRecDepth 100000 in
theorem kcJ3r (l : Launch) (D : va_G) (ty : Nat → ClassId) (eo : Nat → Nat) (sz : Nat) (a9 : Nat) (i n : Int32) (h0 : ¬ i < 0) (hlt : i < n) : Met l yJ3_checkIndex_8e157 wsJ3_checkIndex_8e157 ({ frames := 0, cells := 0, slots := 0, locals := 0 }) (va_Pc [.int i, .int n, .ref a9] (kz_pre D ty eo [] sz)) (va_Qi (fun (r : Int32) (u : va_W) => i = r ∧ [] = u) (kz_B D ty (va_A [] sz)) (va_A [] sz)) 0 0 (va_A [] sz) := by
  refine Met.ofW (cc := cJ3_checkIndex_8e157) (maxL := 3) (ret := (some .int)) (by decide) rfl ?_
  intro p e s m args below meth c s₁ B hml hv
  obtain ⟨rfl, hsz, hP, hK, hD0, hN, hE⟩ := hv
  have hx := B.exec
  have hb := B.bytes
  have hr := B.returns
  have hts := atoms_spec (ws := wsJ3_checkIndex_8e157) B.pre
  have hown : s.vm.findClass RJ3 = some m.cls := findClass_of_methodNamed B.named
  have hlocks := B.notSynchronized
  subst hsz
  have hD := hD0.self (sz := s.heap.size)
  generalize hAe : va_A [] s.heap.size = A at hD hE ⊢
  have hA : ∀ q : Nat, s.heap.size ≤ q → A q := fun q h => by rw [← hAe]; exact Or.inr h
  have hS : va_S A s.heap s.heap [] := va_S.rf
  have hl := lv_entry ([.int i, .int n, .ref a9]) (n := 3) (Nat.le_of_ble_eq_true rfl)
  rw [lg_entry_eq]
  generalize (lg_sl ([.int i, .int n, .ref a9]) ++ List.replicate (3 - (lg_sl ([.int i, .int n, .ref a9])).length) Slot.unset).toArray = ls at hl ⊢
  have hl : lv_has ls 3 [(0, .int i), (1, .int n), (2, .ref a9)] := hl
  refine lv_iload_n hx hb dJ3_checkIndex_8e157_0 rfl (lv_at hl 0 rfl) ?_
  refine lv_if_lt (tgt := 9) hx hb dJ3_checkIndex_8e157_1 (by decide) (fun h9 => absurd h9 h0) (fun _ => ?_)
  refine lv_iload_n hx hb dJ3_checkIndex_8e157_4 rfl (lv_at hl 0 rfl) ?_
  refine lv_iload_n hx hb dJ3_checkIndex_8e157_5 rfl (lv_at hl 1 rfl) ?_
  refine lv_icmp_lt (tgt := 16) hx hb dJ3_checkIndex_8e157_6 (by decide) (fun _ => ?_) (fun h9 => absurd hlt h9)
  refine lv_iload_n hx hb dJ3_checkIndex_8e157_16 rfl (lv_at hl 0 rfl) ?_
  exact kz_iret hx hb hr hlocks hP hK hD hS dJ3_checkIndex_8e157_17 ⟨rfl, rfl⟩
set_option maxHeartbeats 4000000 in
set_option maxRecDepth 100000 in
theorem kcJ0ck (l : Launch) (D : va_G) (ty : Nat → ClassId) (eo : Nat → Nat) (sz : Nat) (i n : Int32) (h0 : ¬ i < 0) (hlt : i < n) : Met l yJ0_checkIndex_df160 wsJ0_checkIndex_df160 ({ frames := 1, cells := 0, slots := 0, locals := 22 }) (va_Pc [.int i, .int n] (kz_pre D ty eo [] sz)) (va_Qv (fun (u : va_W) => [] = u) (kz_B D ty (va_A [] sz)) (va_A [] sz)) 0 0 (va_A [] sz) := by
  refine Met.ofW (cc := cJ0_checkIndex_df160) (maxL := 2) (ret := none) (by decide) rfl ?_
  intro p e s m args below meth c s₁ B hml hv
  obtain ⟨rfl, hsz, hP, hK, hD0, hN, hE⟩ := hv
  have hx := B.exec
  have hb := B.bytes
  have hr := B.returns
  have hts := atoms_spec (ws := wsJ0_checkIndex_df160) B.pre
  have hown : s.vm.findClass RJ0 = some m.cls := findClass_of_methodNamed B.named
  have hlocks := B.notSynchronized
  subst hsz
  have hD := hD0.self (sz := s.heap.size)
  generalize hAe : va_A [] s.heap.size = A at hD hE ⊢
  have hA : ∀ q : Nat, s.heap.size ≤ q → A q := fun q h => by rw [← hAe]; exact Or.inr h
  have hS : va_S A s.heap s.heap [] := va_S.rf
  have hl := lv_entry ([.int i, .int n]) (n := 2) (Nat.le_of_ble_eq_true rfl)
  rw [lg_entry_eq]
  generalize (lg_sl ([.int i, .int n]) ++ List.replicate (2 - (lg_sl ([.int i, .int n])).length) Slot.unset).toArray = ls at hl ⊢
  have hl : lv_has ls 2 [(0, .int i), (1, .int n)] := hl
  obtain ⟨fv, hfv, hZ⟩ := hE.2.2.2.2.2
  refine lv_iload_n hx hb dJ0_checkIndex_df160_0 rfl (lv_at hl 0 rfl) ?_
  refine lv_iload_n hx hb dJ0_checkIndex_df160_1 rfl (lv_at hl 1 rfl) ?_
  refine va_gets hx hb hZ hS hown (hts (.fieldLink RJ0 1053 "jdk/internal/util/Preconditions" "SIOOBE_FORMATTER" "Ljava/util/function/BiFunction;") f9_wsJ0_checkIndex_df160_323) (fun _ h9 => h9) dJ0_checkIndex_df160_2 ?_
  rcases hfv with ef | ⟨a9, ef⟩
  · subst ef
    refine kz_ki (wc := []) (wr := []) (va_runS (As := [.int i, .int n, .null]) (rest := []) ⟨hx, hb, hml, hown, hts⟩ (kcJ3n l D ty eo _ i n h0 hlt) (va_cwS 3 hts gJ0_checkIndex_df160_J3_checkIndex_8e157 rfl rfl rfl hd_J3_checkIndex_8e157 ⟨Nat.le_of_ble_eq_true rfl, Nat.le_of_ble_eq_true rfl⟩) (pvS_0 hK hN hE hP hD hS hA) rfl rfl hl.1 rfl (lv_room (Nat.le_of_ble_eq_true rfl)) dJ0_checkIndex_df160_5 ⟨Nat.le_of_ble_eq_true rfl, Nat.le_of_ble_eq_true rfl⟩) hP hD hS hA [] [] rfl rfl (by decide) (by decide) (fun r u H locs hw hp hd hs => ?_)
    obtain ⟨rfl, rfl⟩ := hw
    refine kz_re (w2 := []) hp hd hs rfl ?_
    clear hp hd hs hP hD hS
    intro hP hD hS
    refine lv_pop hx hb dJ0_checkIndex_df160_8 rfl ?_
    exact kz_vret hx hb hr hlocks hP hK hD hS dJ0_checkIndex_df160_9 rfl
  · subst ef
    refine kz_ki (wc := []) (wr := []) (va_runS (As := [.int i, .int n, .ref a9]) (rest := []) ⟨hx, hb, hml, hown, hts⟩ (kcJ3r l D ty eo _ a9 i n h0 hlt) (va_cwS 3 hts gJ0_checkIndex_df160_J3_checkIndex_8e157 rfl rfl rfl hd_J3_checkIndex_8e157 ⟨Nat.le_of_ble_eq_true rfl, Nat.le_of_ble_eq_true rfl⟩) (pvS_0 hK hN hE hP hD hS hA) rfl rfl hl.1 rfl (lv_room (Nat.le_of_ble_eq_true rfl)) dJ0_checkIndex_df160_5 ⟨Nat.le_of_ble_eq_true rfl, Nat.le_of_ble_eq_true rfl⟩) hP hD hS hA [] [] rfl rfl (by decide) (by decide) (fun r u H locs hw hp hd hs => ?_)
    obtain ⟨rfl, rfl⟩ := hw
    refine kz_re (w2 := []) hp hd hs rfl ?_
    clear hp hd hs hP hD hS
    intro hP hD hS
    refine lv_pop hx hb dJ0_checkIndex_df160_8 rfl ?_
    exact kz_vret hx hb hr hlocks hP hK hD hS dJ0_checkIndex_df160_9 rfl
set_option maxHeartbeats 4000000 in
set_option maxRecDepth 100000 in
theorem kcJ1ch (l : Launch) (D : va_G) (ty : Nat → ClassId) (eo : Nat → Nat) (sz : Nat) (k : Nat) (hk : k < 12) (i : Int32) (hi : vp_in i (kzLen.getD k 0)) : Met l yJ1_charAt_3b067 wsJ1_charAt_3b067 ({ frames := 2, cells := 0, slots := 0, locals := 43 }) (va_Pc [.ref (eo (20 + k)), .int i] (kz_pre D ty eo [] sz)) (va_Qi (fun (r : Int32) (u : va_W) => chV k i = r ∧ [] = u) (kz_B D ty (va_A [] sz)) (va_A [] sz)) 0 0 (va_A [] sz) := by
  refine Met.ofW (cc := cJ1_charAt_3b067) (maxL := 2) (ret := (some .char)) (by decide) rfl ?_
  intro p e s m args below meth c s₁ B hml hv
  obtain ⟨rfl, hsz, hP, hK, hD0, hN, hE⟩ := hv
  have hx := B.exec
  have hb := B.bytes
  have hr := B.returns
  have hts := atoms_spec (ws := wsJ1_charAt_3b067) B.pre
  have hown : s.vm.findClass RJ1 = some m.cls := findClass_of_methodNamed B.named
  have hlocks := B.notSynchronized
  subst hsz
  have hD := hD0.self (sz := s.heap.size)
  generalize hAe : va_A [] s.heap.size = A at hD hE ⊢
  have hA : ∀ q : Nat, s.heap.size ≤ q → A q := fun q h => by rw [← hAe]; exact Or.inr h
  have hS : va_S A s.heap s.heap [] := va_S.rf
  have hl := lv_entry ([.ref (eo (20 + k)), .int i]) (n := 2) (Nat.le_of_ble_eq_true rfl)
  rw [lg_entry_eq]
  generalize (lg_sl ([.ref (eo (20 + k)), .int i]) ++ List.replicate (2 - (lg_sl ([.ref (eo (20 + k)), .int i])).length) Slot.unset).toArray = ls at hl ⊢
  have hl : lv_has ls 2 [(0, .ref (eo (20 + k))), (1, .int i)] := hl
  obtain ⟨i1, i2, i3⟩ := ch_in hk hi
  refine lv_iload_n hx hb dJ1_charAt_3b067_0 rfl (lv_at hl 1 rfl) ?_
  refine lv_aload_n hx hb dJ1_charAt_3b067_1 rfl (lv_at hl 0 rfl) ?_
  refine va_tlen (v := chN k) hx hb (hE.2.2.2.1.1 k hk).2.2.2 hS rfl dJ1_charAt_3b067_2 ?_
  refine kz_kv (wc := []) (wr := []) (va_runS (As := [.int i, .int (chN k)]) (rest := []) ⟨hx, hb, hml, hown, hts⟩ (kcJ0ck l D ty eo _ i (chN k) i1 i2) (va_cwS 2 hts gJ1_charAt_3b067_J0_checkIndex_df160 rfl rfl rfl hd_J0_checkIndex_df160 ⟨Nat.le_of_ble_eq_true rfl, Nat.le_of_ble_eq_true rfl⟩) (pvS_0 hK hN hE hP hD hS hA) rfl rfl hl.1 rfl (lv_room (Nat.le_of_ble_eq_true rfl)) dJ1_charAt_3b067_3 ⟨Nat.le_of_ble_eq_true rfl, Nat.le_of_ble_eq_true rfl⟩) hP hD hS hA [] [] rfl rfl (by decide) (by decide) (fun u H locs hw hp hd hs => ?_)
  obtain rfl := hw
  refine kz_re (w2 := []) hp hd hs rfl ?_
  clear hp hd hs hP hD hS
  intro hP hD hS
  refine lv_aload_n hx hb dJ1_charAt_3b067_6 rfl (lv_at hl 0 rfl) ?_
  refine lv_iload_n hx hb dJ1_charAt_3b067_7 rfl (lv_at hl 1 rfl) ?_
  refine va_tb (v := .int (chV k i)) hx hb (hE.2.2.2.1.1 k hk).2.2.2 hS hi rfl dJ1_charAt_3b067_8 ?_
  refine lv_sipush (v := 255) hx hb dJ1_charAt_3b067_9 (by decide) ?_
  refine lv_iand hx hb dJ1_charAt_3b067_12 ?_
  refine lv_i2c (v := chV k i) hx hb dJ1_charAt_3b067_13 (ch_ok k hk _ i3).1 ?_
  exact kz_zret hx hb hr hlocks (congrArg Value.int (ch_ok k hk _ i3).2) hP hK hD hS dJ1_charAt_3b067_14 ⟨rfl, rfl⟩
set_option maxHeartbeats 4000000 in
set_option maxRecDepth 100000 in
theorem kcJ0la (l : Launch) (D : va_G) (ty : Nat → ClassId) (eo : Nat → Nat) (sz : Nat) (k : Nat) (hk : k < 12) : Met l yJ0_isLatin1_aae02 wsJ0_isLatin1_aae02 ({ frames := 0, cells := 0, slots := 0, locals := 0 }) (va_Pc [.ref (eo (1 + k))] (kz_pre D ty eo [] sz)) (va_Qi (fun (r : Int32) (u : va_W) => (1 : Int32) = r ∧ [] = u) (kz_B D ty (va_A [] sz)) (va_A [] sz)) 0 0 (va_A [] sz) := by
  refine Met.ofW (cc := cJ0_isLatin1_aae02) (maxL := 1) (ret := (some .boolean)) (by decide) rfl ?_
  intro p e s m args below meth c s₁ B hml hv
  obtain ⟨rfl, hsz, hP, hK, hD0, hN, hE⟩ := hv
  have hx := B.exec
  have hb := B.bytes
  have hr := B.returns
  have hts := atoms_spec (ws := wsJ0_isLatin1_aae02) B.pre
  have hown : s.vm.findClass RJ0 = some m.cls := findClass_of_methodNamed B.named
  have hlocks := B.notSynchronized
  subst hsz
  have hD := hD0.self (sz := s.heap.size)
  generalize hAe : va_A [] s.heap.size = A at hD hE ⊢
  have hA : ∀ q : Nat, s.heap.size ≤ q → A q := fun q h => by rw [← hAe]; exact Or.inr h
  have hS : va_S A s.heap s.heap [] := va_S.rf
  have hl := lv_entry ([.ref (eo (1 + k))]) (n := 1) (Nat.le_of_ble_eq_true rfl)
  rw [lg_entry_eq]
  generalize (lg_sl ([.ref (eo (1 + k))]) ++ List.replicate (1 - (lg_sl ([.ref (eo (1 + k))])).length) Slot.unset).toArray = ls at hl ⊢
  have hl : lv_has ls 1 [(0, .ref (eo (1 + k)))] := hl
  refine va_gets hx hb hE.2.2.1 hS hown (hts (.fieldLink RJ0 38 "java/lang/String" "COMPACT_STRINGS" "Z") f9_wsJ0_isLatin1_aae02_324) (fun _ h9 => h9) dJ0_isLatin1_aae02_0 ?_
  refine lv_if_eq (tgt := 17) hx hb dJ0_isLatin1_aae02_3 (by decide) (fun h => absurd h (by decide)) (fun _ => ?_)
  refine lv_aload_n hx hb dJ0_isLatin1_aae02_6 rfl (lv_at hl 0 rfl) ?_
  refine vk_getf (v := .int 0) hx hb (hE.2.2.2.1.1 k hk).2.1 hS hown (hts (.fieldLink RJ0 15 "java/lang/String" "coder" "B") f9_wsJ0_isLatin1_aae02_325) (fun _ h9 => h9) dJ0_isLatin1_aae02_7 ?_
  refine lv_if_ne (tgt := 17) hx hb dJ0_isLatin1_aae02_10 (by decide) (fun h9 => absurd rfl h9) (fun _ => ?_)
  refine lv_iconst (v := 1) hx hb dJ0_isLatin1_aae02_13 (by decide) ?_
  refine lv_goto (tgt := 18) hx hb dJ0_isLatin1_aae02_14 (by decide) ?_
  exact kz_zret hx hb hr hlocks rfl hP hK hD hS dJ0_isLatin1_aae02_18 ⟨rfl, rfl⟩
set_option maxHeartbeats 4000000 in
set_option maxRecDepth 100000 in
theorem kcJ0ch (l : Launch) (D : va_G) (ty : Nat → ClassId) (eo : Nat → Nat) (sz : Nat) (k : Nat) (hk : k < 12) (i : Int32) (hi : vp_in i (kzLen.getD k 0)) : Met l yJ0_charAt_5068e wsJ0_charAt_5068e ({ frames := 3, cells := 0, slots := 0, locals := 64 }) (va_Pc [.ref (eo (1 + k)), .int i] (kz_pre D ty eo [] sz)) (va_Qi (fun (r : Int32) (u : va_W) => chV k i = r ∧ [] = u) (kz_B D ty (va_A [] sz)) (va_A [] sz)) 0 0 (va_A [] sz) := by
  refine Met.ofW (cc := cJ0_charAt_5068e) (maxL := 2) (ret := (some .char)) (by decide) rfl ?_
  intro p e s m args below meth c s₁ B hml hv
  obtain ⟨rfl, hsz, hP, hK, hD0, hN, hE⟩ := hv
  have hx := B.exec
  have hb := B.bytes
  have hr := B.returns
  have hts := atoms_spec (ws := wsJ0_charAt_5068e) B.pre
  have hown : s.vm.findClass RJ0 = some m.cls := findClass_of_methodNamed B.named
  have hlocks := B.notSynchronized
  subst hsz
  have hD := hD0.self (sz := s.heap.size)
  generalize hAe : va_A [] s.heap.size = A at hD hE ⊢
  have hA : ∀ q : Nat, s.heap.size ≤ q → A q := fun q h => by rw [← hAe]; exact Or.inr h
  have hS : va_S A s.heap s.heap [] := va_S.rf
  have hl := lv_entry ([.ref (eo (1 + k)), .int i]) (n := 2) (Nat.le_of_ble_eq_true rfl)
  rw [lg_entry_eq]
  generalize (lg_sl ([.ref (eo (1 + k)), .int i]) ++ List.replicate (2 - (lg_sl ([.ref (eo (1 + k)), .int i])).length) Slot.unset).toArray = ls at hl ⊢
  have hl : lv_has ls 2 [(0, .ref (eo (1 + k))), (1, .int i)] := hl
  obtain ⟨i1, i2, i3⟩ := ch_in hk hi
  refine lv_aload_n hx hb dJ0_charAt_5068e_0 rfl (lv_at hl 0 rfl) ?_
  refine kz_ki (wc := []) (wr := []) (va_runV (As := []) (rest := []) ⟨hx, hb, hml, hown, hts⟩ (kcJ0la l D ty eo _ k hk) (cwV 0 hts gJ0_charAt_5068e_J0_isLatin1_aae02 rfl rfl rfl hd_J0_isLatin1_aae02_v ⟨Nat.le_of_ble_eq_true rfl, Nat.le_of_ble_eq_true rfl⟩) (kz_preT hK hN hE hP hD hS hA k hk [] (by decide) rfl) rfl rfl hl.1 rfl (lv_room (Nat.le_of_ble_eq_true rfl)) dJ0_charAt_5068e_1 ⟨Nat.le_of_ble_eq_true rfl, Nat.le_of_ble_eq_true rfl⟩) hP hD hS hA [] [] rfl rfl (by decide) (by decide) (fun r u H locs hw hp hd hs => ?_)
  obtain ⟨rfl, rfl⟩ := hw
  refine kz_re (w2 := []) hp hd hs rfl ?_
  clear hp hd hs hP hD hS
  intro hP hD hS
  refine lv_if_eq (tgt := 16) hx hb dJ0_charAt_5068e_4 (by decide) (fun h => absurd h (by decide)) (fun _ => ?_)
  refine lv_aload_n hx hb dJ0_charAt_5068e_7 rfl (lv_at hl 0 rfl) ?_
  refine vk_getf (v := .ref (eo (20 + k))) hx hb (hE.2.2.2.1.1 k hk).2.2.1 hS hown (hts (.fieldLink RJ0 9 "java/lang/String" "value" "[B") f9_wsJ0_charAt_5068e_326) (fun _ h9 => h9) dJ0_charAt_5068e_8 ?_
  refine lv_iload_n hx hb dJ0_charAt_5068e_11 rfl (lv_at hl 1 rfl) ?_
  refine kz_ki (wc := []) (wr := []) (va_runS (As := [.ref (eo (20 + k)), .int i]) (rest := []) ⟨hx, hb, hml, hown, hts⟩ (kcJ1ch l D ty eo _ k hk i hi) (va_cwS 2 hts gJ0_charAt_5068e_J1_charAt_3b067 rfl rfl rfl hd_J1_charAt_3b067 ⟨Nat.le_of_ble_eq_true rfl, Nat.le_of_ble_eq_true rfl⟩) (pvS_0 hK hN hE hP hD hS hA) rfl rfl hl.1 rfl (lv_room (Nat.le_of_ble_eq_true rfl)) dJ0_charAt_5068e_12 ⟨Nat.le_of_ble_eq_true rfl, Nat.le_of_ble_eq_true rfl⟩) hP hD hS hA [] [] rfl rfl (by decide) (by decide) (fun r u H locs hw hp hd hs => ?_)
  obtain ⟨rfl, rfl⟩ := hw
  refine kz_re (w2 := []) hp hd hs rfl ?_
  clear hp hd hs hP hD hS
  intro hP hD hS
  exact kz_zret hx hb hr hlocks (congrArg Value.int (ch_ok k hk _ i3).2) hP hK hD hS dJ0_charAt_5068e_15 ⟨rfl, rfl⟩
set_option maxHeartbeats 4000000 in
set_option maxRecDepth 100000 in
theorem kcJ0co (l : Launch) (D : va_G) (ty : Nat → ClassId) (eo : Nat → Nat) (sz : Nat) (k : Nat) (hk : k < 12) : Met l yJ0_coder_7d493 wsJ0_coder_7d493 ({ frames := 0, cells := 0, slots := 0, locals := 0 }) (va_Pc [.ref (eo (1 + k))] (kz_pre D ty eo [] sz)) (va_Qi (fun (r : Int32) (u : va_W) => (0 : Int32) = r ∧ [] = u) (kz_B D ty (va_A [] sz)) (va_A [] sz)) 0 0 (va_A [] sz) := by
  refine Met.ofW (cc := cJ0_coder_7d493) (maxL := 1) (ret := (some .byte)) (by decide) rfl ?_
  intro p e s m args below meth c s₁ B hml hv
  obtain ⟨rfl, hsz, hP, hK, hD0, hN, hE⟩ := hv
  have hx := B.exec
  have hb := B.bytes
  have hr := B.returns
  have hts := atoms_spec (ws := wsJ0_coder_7d493) B.pre
  have hown : s.vm.findClass RJ0 = some m.cls := findClass_of_methodNamed B.named
  have hlocks := B.notSynchronized
  subst hsz
  have hD := hD0.self (sz := s.heap.size)
  generalize hAe : va_A [] s.heap.size = A at hD hE ⊢
  have hA : ∀ q : Nat, s.heap.size ≤ q → A q := fun q h => by rw [← hAe]; exact Or.inr h
  have hS : va_S A s.heap s.heap [] := va_S.rf
  have hl := lv_entry ([.ref (eo (1 + k))]) (n := 1) (Nat.le_of_ble_eq_true rfl)
  rw [lg_entry_eq]
  generalize (lg_sl ([.ref (eo (1 + k))]) ++ List.replicate (1 - (lg_sl ([.ref (eo (1 + k))])).length) Slot.unset).toArray = ls at hl ⊢
  have hl : lv_has ls 1 [(0, .ref (eo (1 + k)))] := hl
  refine va_gets hx hb hE.2.2.1 hS hown (hts (.fieldLink RJ0 38 "java/lang/String" "COMPACT_STRINGS" "Z") f9_wsJ0_coder_7d493_327) (fun _ h9 => h9) dJ0_coder_7d493_0 ?_
  refine lv_if_eq (tgt := 13) hx hb dJ0_coder_7d493_3 (by decide) (fun h => absurd h (by decide)) (fun _ => ?_)
  refine lv_aload_n hx hb dJ0_coder_7d493_6 rfl (lv_at hl 0 rfl) ?_
  refine vk_getf (v := .int 0) hx hb (hE.2.2.2.1.1 k hk).2.1 hS hown (hts (.fieldLink RJ0 15 "java/lang/String" "coder" "B") f9_wsJ0_coder_7d493_328) (fun _ h9 => h9) dJ0_coder_7d493_7 ?_
  refine lv_goto (tgt := 14) hx hb dJ0_coder_7d493_10 (by decide) ?_
  exact kz_zret hx hb hr hlocks rfl hP hK hD hS dJ0_coder_7d493_14 ⟨rfl, rfl⟩
set_option maxHeartbeats 4000000 in
set_option maxRecDepth 100000 in
theorem kcJ0le (l : Launch) (D : va_G) (ty : Nat → ClassId) (eo : Nat → Nat) (sz : Nat) (k : Nat) (hk : k < 12) : Met l yJ0_length_8abf5 wsJ0_length_8abf5 ({ frames := 1, cells := 0, slots := 0, locals := 20 }) (va_Pc [.ref (eo (1 + k))] (kz_pre D ty eo [] sz)) (va_Qi (fun (r : Int32) (u : va_W) => chN k = r ∧ [] = u) (kz_B D ty (va_A [] sz)) (va_A [] sz)) 0 0 (va_A [] sz) := by
  refine Met.ofW (cc := cJ0_length_8abf5) (maxL := 1) (ret := (some .int)) (by decide) rfl ?_
  intro p e s m args below meth c s₁ B hml hv
  obtain ⟨rfl, hsz, hP, hK, hD0, hN, hE⟩ := hv
  have hx := B.exec
  have hb := B.bytes
  have hr := B.returns
  have hts := atoms_spec (ws := wsJ0_length_8abf5) B.pre
  have hown : s.vm.findClass RJ0 = some m.cls := findClass_of_methodNamed B.named
  have hlocks := B.notSynchronized
  subst hsz
  have hD := hD0.self (sz := s.heap.size)
  generalize hAe : va_A [] s.heap.size = A at hD hE ⊢
  have hA : ∀ q : Nat, s.heap.size ≤ q → A q := fun q h => by rw [← hAe]; exact Or.inr h
  have hS : va_S A s.heap s.heap [] := va_S.rf
  have hl := lv_entry ([.ref (eo (1 + k))]) (n := 1) (Nat.le_of_ble_eq_true rfl)
  rw [lg_entry_eq]
  generalize (lg_sl ([.ref (eo (1 + k))]) ++ List.replicate (1 - (lg_sl ([.ref (eo (1 + k))])).length) Slot.unset).toArray = ls at hl ⊢
  have hl : lv_has ls 1 [(0, .ref (eo (1 + k)))] := hl
  refine lv_aload_n hx hb dJ0_length_8abf5_0 rfl (lv_at hl 0 rfl) ?_
  refine vk_getf (v := .ref (eo (20 + k))) hx hb (hE.2.2.2.1.1 k hk).2.2.1 hS hown (hts (.fieldLink RJ0 9 "java/lang/String" "value" "[B") f9_wsJ0_length_8abf5_329) (fun _ h9 => h9) dJ0_length_8abf5_1 ?_
  refine va_tlen (v := chN k) hx hb (hE.2.2.2.1.1 k hk).2.2.2 hS rfl dJ0_length_8abf5_4 ?_
  refine lv_aload_n hx hb dJ0_length_8abf5_5 rfl (lv_at hl 0 rfl) ?_
  refine kz_ki (wc := []) (wr := []) (va_runV (As := []) (rest := [.int (chN k)]) ⟨hx, hb, hml, hown, hts⟩ (kcJ0co l D ty eo _ k hk) (cwV 0 hts gJ0_length_8abf5_J0_coder_7d493 rfl rfl rfl hd_J0_coder_7d493_v ⟨Nat.le_of_ble_eq_true rfl, Nat.le_of_ble_eq_true rfl⟩) (kz_preT hK hN hE hP hD hS hA k hk [] (by decide) rfl) rfl rfl hl.1 rfl (lv_room (Nat.le_of_ble_eq_true rfl)) dJ0_length_8abf5_6 ⟨Nat.le_of_ble_eq_true rfl, Nat.le_of_ble_eq_true rfl⟩) hP hD hS hA [] [] rfl rfl (by decide) (by decide) (fun r u H locs hw hp hd hs => ?_)
  obtain ⟨rfl, rfl⟩ := hw
  refine kz_re (w2 := []) hp hd hs rfl ?_
  clear hp hd hs hP hD hS
  intro hP hD hS
  refine lv_ishr hx hb dJ0_length_8abf5_9 ?_
  refine kz_topi (chN k) (ch_len k hk).2.2 ?_
  exact kz_iret hx hb hr hlocks hP hK hD hS dJ0_length_8abf5_10 ⟨rfl, rfl⟩
end
section
theorem da9_dX7_init_0 : (decode cX7_init 0 = .ok (.aload_n 0, 1)) ∧ (decode cX7_init 1 = .ok (.invokespecial 1, 3)) ∧ (decode cX7_init 4 = .ok (.aload_n 0, 1)) ∧ (decode cX7_init 5 = .ok (.iconst 0, 1)) ∧ (decode cX7_init 6 = .ok (.putfield 7, 3)) ∧ (decode cX7_init 9 = .ok (.aload_n 0, 1)) ∧ (decode cX7_init 10 = .ok (.iconst 0, 1)) ∧ (decode cX7_init 11 = .ok (.putfield 13, 3)) ∧ (decode cX7_init 14 = .ok (.aload_n 0, 1)) ∧ (decode cX7_init 15 = .ok (.iload_n 1, 1)) ∧ (decode cX7_init 16 = .ok (.newarray .int, 2)) ∧ (decode cX7_init 18 = .ok (.putfield 16, 3)) ∧ (decode cX7_init 21 = .ok (.aload_n 0, 1)) ∧ (decode cX7_init 22 = .ok (.iload_n 1, 1)) ∧ (decode cX7_init 23 = .ok (.newarray .int, 2)) ∧ (decode cX7_init 25 = .ok (.putfield 20, 3)) := by decide +kernel
theorem dX7_init_0 : decode cX7_init 0 = .ok (.aload_n 0, 1) := da9_dX7_init_0.1
theorem dX7_init_1 : decode cX7_init 1 = .ok (.invokespecial 1, 3) := da9_dX7_init_0.2.1
theorem dX7_init_4 : decode cX7_init 4 = .ok (.aload_n 0, 1) := da9_dX7_init_0.2.2.1
theorem dX7_init_5 : decode cX7_init 5 = .ok (.iconst 0, 1) := da9_dX7_init_0.2.2.2.1
theorem dX7_init_6 : decode cX7_init 6 = .ok (.putfield 7, 3) := da9_dX7_init_0.2.2.2.2.1
theorem dX7_init_9 : decode cX7_init 9 = .ok (.aload_n 0, 1) := da9_dX7_init_0.2.2.2.2.2.1
theorem dX7_init_10 : decode cX7_init 10 = .ok (.iconst 0, 1) := da9_dX7_init_0.2.2.2.2.2.2.1
theorem dX7_init_11 : decode cX7_init 11 = .ok (.putfield 13, 3) := da9_dX7_init_0.2.2.2.2.2.2.2.1
theorem dX7_init_14 : decode cX7_init 14 = .ok (.aload_n 0, 1) := da9_dX7_init_0.2.2.2.2.2.2.2.2.1
theorem dX7_init_15 : decode cX7_init 15 = .ok (.iload_n 1, 1) := da9_dX7_init_0.2.2.2.2.2.2.2.2.2.1
theorem dX7_init_16 : decode cX7_init 16 = .ok (.newarray .int, 2) := da9_dX7_init_0.2.2.2.2.2.2.2.2.2.2.1
theorem dX7_init_18 : decode cX7_init 18 = .ok (.putfield 16, 3) := da9_dX7_init_0.2.2.2.2.2.2.2.2.2.2.2.1
theorem dX7_init_21 : decode cX7_init 21 = .ok (.aload_n 0, 1) := da9_dX7_init_0.2.2.2.2.2.2.2.2.2.2.2.2.1
theorem dX7_init_22 : decode cX7_init 22 = .ok (.iload_n 1, 1) := da9_dX7_init_0.2.2.2.2.2.2.2.2.2.2.2.2.2.1
theorem dX7_init_23 : decode cX7_init 23 = .ok (.newarray .int, 2) := da9_dX7_init_0.2.2.2.2.2.2.2.2.2.2.2.2.2.2.1
theorem dX7_init_25 : decode cX7_init 25 = .ok (.putfield 20, 3) := da9_dX7_init_0.2.2.2.2.2.2.2.2.2.2.2.2.2.2.2
theorem da9_dX7_init_28 : (decode cX7_init 28 = .ok (.aload_n 0, 1)) ∧ (decode cX7_init 29 = .ok (.iload_n 1, 1)) ∧ (decode cX7_init 30 = .ok (.newarray .int, 2)) ∧ (decode cX7_init 32 = .ok (.putfield 23, 3)) ∧ (decode cX7_init 35 = .ok (.aload_n 0, 1)) ∧ (decode cX7_init 36 = .ok (.iload_n 1, 1)) ∧ (decode cX7_init 37 = .ok (.newarray .int, 2)) ∧ (decode cX7_init 39 = .ok (.putfield 26, 3)) ∧ (decode cX7_init 42 = .ok (.aload_n 0, 1)) ∧ (decode cX7_init 43 = .ok (.iload_n 1, 1)) ∧ (decode cX7_init 44 = .ok (.newarray .int, 2)) ∧ (decode cX7_init 46 = .ok (.putfield 29, 3)) ∧ (decode cX7_init 49 = .ok (.aload_n 0, 1)) ∧ (decode cX7_init 50 = .ok (.iload_n 2, 1)) ∧ (decode cX7_init 51 = .ok (.newarray .int, 2)) ∧ (decode cX7_init 53 = .ok (.putfield 32, 3)) := by decide +kernel
theorem dX7_init_28 : decode cX7_init 28 = .ok (.aload_n 0, 1) := da9_dX7_init_28.1
theorem dX7_init_29 : decode cX7_init 29 = .ok (.iload_n 1, 1) := da9_dX7_init_28.2.1
theorem dX7_init_30 : decode cX7_init 30 = .ok (.newarray .int, 2) := da9_dX7_init_28.2.2.1
theorem dX7_init_32 : decode cX7_init 32 = .ok (.putfield 23, 3) := da9_dX7_init_28.2.2.2.1
theorem dX7_init_35 : decode cX7_init 35 = .ok (.aload_n 0, 1) := da9_dX7_init_28.2.2.2.2.1
theorem dX7_init_36 : decode cX7_init 36 = .ok (.iload_n 1, 1) := da9_dX7_init_28.2.2.2.2.2.1
theorem dX7_init_37 : decode cX7_init 37 = .ok (.newarray .int, 2) := da9_dX7_init_28.2.2.2.2.2.2.1
theorem dX7_init_39 : decode cX7_init 39 = .ok (.putfield 26, 3) := da9_dX7_init_28.2.2.2.2.2.2.2.1
theorem dX7_init_42 : decode cX7_init 42 = .ok (.aload_n 0, 1) := da9_dX7_init_28.2.2.2.2.2.2.2.2.1
theorem dX7_init_43 : decode cX7_init 43 = .ok (.iload_n 1, 1) := da9_dX7_init_28.2.2.2.2.2.2.2.2.2.1
theorem dX7_init_44 : decode cX7_init 44 = .ok (.newarray .int, 2) := da9_dX7_init_28.2.2.2.2.2.2.2.2.2.2.1
theorem dX7_init_46 : decode cX7_init 46 = .ok (.putfield 29, 3) := da9_dX7_init_28.2.2.2.2.2.2.2.2.2.2.2.1
theorem dX7_init_49 : decode cX7_init 49 = .ok (.aload_n 0, 1) := da9_dX7_init_28.2.2.2.2.2.2.2.2.2.2.2.2.1
theorem dX7_init_50 : decode cX7_init 50 = .ok (.iload_n 2, 1) := da9_dX7_init_28.2.2.2.2.2.2.2.2.2.2.2.2.2.1
theorem dX7_init_51 : decode cX7_init 51 = .ok (.newarray .int, 2) := da9_dX7_init_28.2.2.2.2.2.2.2.2.2.2.2.2.2.2.1
theorem dX7_init_53 : decode cX7_init 53 = .ok (.putfield 32, 3) := da9_dX7_init_28.2.2.2.2.2.2.2.2.2.2.2.2.2.2.2
theorem dX7_init_56 : decode cX7_init 56 = .ok (.return_, 1) := by decide +kernel
end
section
theorem u9_wsX7_init_X7 : ∀ w ∈ u_ws RX7 TX7 8, w ∈ wsX7_init := by
  first | exact fun w h => List.mem_cons_of_mem _ (List.mem_append_right _ h) | decide +kernel
theorem f9_wsX7_init_331 : (Cond.methodLink RX7 1 objectInit) ∈ wsX7_init := by decide +kernel
theorem f9_wsX7_init_332 : (Cond.instanceMethod objectInit) ∈ wsX7_init := by decide +kernel
theorem f9_wsX7_init_333 : (Cond.code objectInit ⟨#[0xb1]⟩ 1 none) ∈ wsX7_init := by decide +kernel
theorem f9_wsX7_init_334 : (Cond.fieldLink RX7 7 "TurnedFloors$Text" "clauses" "I") ∈ wsX7_init := by decide +kernel
theorem f9_wsX7_init_335 : (Cond.fieldLink RX7 13 "TurnedFloors$Text" "length" "I") ∈ wsX7_init := by decide +kernel
theorem f9_wsX7_init_336 : (Cond.arrayClass .int) ∈ wsX7_init := by decide +kernel
theorem f9_wsX7_init_337 : (Cond.fieldLink RX7 16 "TurnedFloors$Text" "kind" "[I") ∈ wsX7_init := by decide +kernel
theorem f9_wsX7_init_338 : (Cond.fieldLink RX7 20 "TurnedFloors$Text" "times" "[I") ∈ wsX7_init := by decide +kernel
theorem f9_wsX7_init_339 : (Cond.fieldLink RX7 23 "TurnedFloors$Text" "sumFrom" "[I") ∈ wsX7_init := by decide +kernel
theorem f9_wsX7_init_340 : (Cond.fieldLink RX7 26 "TurnedFloors$Text" "testFrom" "[I") ∈ wsX7_init := by decide +kernel
theorem f9_wsX7_init_341 : (Cond.fieldLink RX7 29 "TurnedFloors$Text" "testTo" "[I") ∈ wsX7_init := by decide +kernel
theorem f9_wsX7_init_342 : (Cond.fieldLink RX7 32 "TurnedFloors$Text" "code" "[I") ∈ wsX7_init := by decide +kernel
set_option maxHeartbeats 4000000 in
set_option maxRecDepth 100000 in
theorem kX7_initD (l : Launch) (D : va_G) (ty : Nat → ClassId) (eo : Nat → Nat) (sz : Nat) (q_25 : Nat) (n k : Int32) (ns : Nat) (hn : ¬ n < 0) (hk : ¬ k < 0) (hnb : Int32.toNatClampNeg n * 4 ≤ 536870912) (hkb : Int32.toNatClampNeg k * 4 ≤ 536870912) (hsl : 5 * Int32.toNatClampNeg n + Int32.toNatClampNeg k ≤ ns) : Met l yX7_init wsX7_init ({ frames := 1, cells := 6, slots := ns, locals := 20 }) (va_Pc [.ref q_25, .int n, .int k] (kz_pre D ty eo [(q_25, .inr (7, [.null, .null, .null, .null, .null, .null, .int 0, .int 0]))] sz)) (va_Qv (fun (u : va_W) => ∃ q_1 q_2 q_3 q_4 q_5 q_6 : Nat, [(q_25, .inr (7, [.ref q_1, .ref q_2, .ref q_3, .ref q_4, .ref q_5, .ref q_6, .int 0, .int 0])), (q_1, .inl (ty 0, Int32.toNatClampNeg n, .inl (fun _ => 0))), (q_2, .inl (ty 0, Int32.toNatClampNeg n, .inl (fun _ => 0))), (q_3, .inl (ty 0, Int32.toNatClampNeg n, .inl (fun _ => 0))), (q_4, .inl (ty 0, Int32.toNatClampNeg n, .inl (fun _ => 0))), (q_5, .inl (ty 0, Int32.toNatClampNeg n, .inl (fun _ => 0))), (q_6, .inl (ty 0, Int32.toNatClampNeg k, .inl (fun _ => 0)))] = u) (kz_B D ty (va_A [(q_25, .inr (7, [.null, .null, .null, .null, .null, .null, .int 0, .int 0]))] sz)) (va_A [(q_25, .inr (7, [.null, .null, .null, .null, .null, .null, .int 0, .int 0]))] sz)) 6 ns (va_A [(q_25, .inr (7, [.null, .null, .null, .null, .null, .null, .int 0, .int 0]))] sz) := by
  refine Met.ofW (cc := cX7_init) (maxL := 3) (ret := none) (by decide) rfl ?_
  intro p e s m args below meth c s₁ B hml hv
  obtain ⟨rfl, hsz, hP, hK, hD0, hN, hE⟩ := hv
  have hx := B.exec
  have hb := B.bytes
  have hr := B.returns
  have hts := atoms_spec (ws := wsX7_init) B.pre
  have hown : s.vm.findClass RX7 = some m.cls := findClass_of_methodNamed B.named
  have hlocks := B.notSynchronized
  have hin : meth.name = "<init>" := (name_of_methodNamed B.named B.method).1
  subst hsz
  have hD := hD0.self (sz := s.heap.size)
  generalize hAe : va_A [(q_25, .inr (7, [.null, .null, .null, .null, .null, .null, .int 0, .int 0]))] s.heap.size = A at hD hE ⊢
  have hA : ∀ q : Nat, s.heap.size ≤ q → A q := fun q h => by rw [← hAe]; exact Or.inr h
  have hS : va_S A s.heap s.heap [] := va_S.rf
  have hl := lv_entry ([.ref q_25, .int n, .int k]) (n := 3) (Nat.le_of_ble_eq_true rfl)
  rw [lg_entry_eq]
  generalize (lg_sl ([.ref q_25, .int n, .int k]) ++ List.replicate (3 - (lg_sl ([.ref q_25, .int n, .int k])).length) Slot.unset).toArray = ls at hl ⊢
  have hl : lv_has ls 3 [(0, .ref q_25), (1, .int n), (2, .int k)] := hl
  refine lv_aload_n hx hb dX7_init_0 rfl (lv_at hl 0 rfl) ?_
  refine W.objInit hx hb hown (hts (.methodLink RX7 1 objectInit) f9_wsX7_init_331) (hts (.instanceMethod objectInit) f9_wsX7_init_332) (hts (.code objectInit ⟨#[0xb1]⟩ 1 none) f9_wsX7_init_333) rfl (by rw [hml]; exact hl.1) rfl dX7_init_1 (Nat.le_of_ble_eq_true rfl) (Nat.le_of_ble_eq_true rfl) ?_
  refine W.eq (g2 := F0 m 4 ls []) rfl ?_
  refine lv_aload_n hx hb dX7_init_4 rfl (lv_at hl 0 rfl) ?_
  refine lv_iconst (v := 0) hx hb dX7_init_5 (by decide) ?_
  refine va_put (D := D) (ci := 7) (v := .int 0) (ty := .int) (C := RX7) (T := TX7) (N := 8) hx hb hts u9_wsX7_init_X7 tyX7 tyX7_ok nmX7 hown hK hP hD hS 0 rfl rfl 6 (by decide) (hts (.fieldLink RX7 7 "TurnedFloors$Text" "clauses" "I") f9_wsX7_init_334) (fun _ h9 => h9) rfl (by decide +kernel) rfl rfl (Nat.le_of_ble_eq_true rfl) dX7_init_6 (fun H locs hp hd hs => ?_)
  refine kz_re (w2 := [(q_25, .inr (7, [.null, .null, .null, .null, .null, .null, .int 0, .int 0]))]) hp hd hs rfl ?_
  clear hp hd hs hP hD hS
  intro hP hD hS
  refine lv_aload_n hx hb dX7_init_9 rfl (lv_at hl 0 rfl) ?_
  refine lv_iconst (v := 0) hx hb dX7_init_10 (by decide) ?_
  refine va_put (D := D) (ci := 7) (v := .int 0) (ty := .int) (C := RX7) (T := TX7) (N := 8) hx hb hts u9_wsX7_init_X7 tyX7 tyX7_ok nmX7 hown hK hP hD hS 0 rfl rfl 7 (by decide) (hts (.fieldLink RX7 13 "TurnedFloors$Text" "length" "I") f9_wsX7_init_335) (fun _ h9 => h9) rfl (by decide +kernel) rfl rfl (Nat.le_of_ble_eq_true rfl) dX7_init_11 (fun H locs hp hd hs => ?_)
  refine kz_re (w2 := [(q_25, .inr (7, [.null, .null, .null, .null, .null, .null, .int 0, .int 0]))]) hp hd hs rfl ?_
  clear hp hd hs hP hD hS
  intro hP hD hS
  refine lv_aload_n hx hb dX7_init_14 rfl (lv_at hl 0 rfl) ?_
  refine lv_iload_n hx hb dX7_init_15 rfl (lv_at hl 1 rfl) ?_
  refine va_newa (atype := .int) (ty := .int) (N' := Int32.toNatClampNeg n) (a0 := (Int32.toNatClampNeg n, .inl (fun _ => 0))) hx hb (hts (.arrayClass .int) f9_wsX7_init_336) rfl hK hP hD hS hA (fun _ => rfl) hn rfl hnb (Nat.le_of_ble_eq_true rfl) (by dsimp only [headSpec]; omega) dX7_init_16 (fun q_1 cA H hK2 hp hd hs => ?_)
  obtain rfl : cA = ty 0 := kz_cA (t0 := 0) (t1 := 6) hK2 rfl rfl rfl
  refine kz_re (w2 := [(q_25, .inr (7, [.null, .null, .null, .null, .null, .null, .int 0, .int 0])), (q_1, .inl (ty 0, Int32.toNatClampNeg n, .inl (fun _ => 0)))]) hp hd hs rfl ?_
  clear hp hd hs hP hD hS
  intro hP hD hS
  refine va_putF (D := D) (ci := 7) (v := .ref q_1) (ty := .array .int) (C := RX7) (T := TX7) (N := 8) hx hb hts u9_wsX7_init_X7 tyX7 tyX7_ok nmX7 hown hK hP hD hS 0 rfl rfl 0 (by decide) (hts (.fieldLink RX7 16 "TurnedFloors$Text" "kind" "[I") f9_wsX7_init_337) (fun _ h9 => h9) rfl hin rfl (by decide +kernel) rfl rfl (Nat.le_of_ble_eq_true rfl) dX7_init_18 (fun H locs hp hd hs => ?_)
  refine kz_re (w2 := [(q_25, .inr (7, [.ref q_1, .null, .null, .null, .null, .null, .int 0, .int 0])), (q_1, .inl (ty 0, Int32.toNatClampNeg n, .inl (fun _ => 0)))]) hp hd hs rfl ?_
  clear hp hd hs hP hD hS
  intro hP hD hS
  refine lv_aload_n hx hb dX7_init_21 rfl (lv_at hl 0 rfl) ?_
  refine lv_iload_n hx hb dX7_init_22 rfl (lv_at hl 1 rfl) ?_
  refine va_newa (atype := .int) (ty := .int) (N' := Int32.toNatClampNeg n) (a0 := (Int32.toNatClampNeg n, .inl (fun _ => 0))) hx hb (hts (.arrayClass .int) f9_wsX7_init_336) rfl hK hP hD hS hA (fun _ => rfl) hn rfl hnb (Nat.le_of_ble_eq_true rfl) (by dsimp only [headSpec]; omega) dX7_init_23 (fun q_2 cA H hK2 hp hd hs => ?_)
  obtain rfl : cA = ty 0 := kz_cA (t0 := 0) (t1 := 6) hK2 rfl rfl rfl
  refine kz_re (w2 := [(q_25, .inr (7, [.ref q_1, .null, .null, .null, .null, .null, .int 0, .int 0])), (q_1, .inl (ty 0, Int32.toNatClampNeg n, .inl (fun _ => 0))), (q_2, .inl (ty 0, Int32.toNatClampNeg n, .inl (fun _ => 0)))]) hp hd hs rfl ?_
  clear hp hd hs hP hD hS
  intro hP hD hS
  refine va_putF (D := D) (ci := 7) (v := .ref q_2) (ty := .array .int) (C := RX7) (T := TX7) (N := 8) hx hb hts u9_wsX7_init_X7 tyX7 tyX7_ok nmX7 hown hK hP hD hS 0 rfl rfl 1 (by decide) (hts (.fieldLink RX7 20 "TurnedFloors$Text" "times" "[I") f9_wsX7_init_338) (fun _ h9 => h9) rfl hin rfl (by decide +kernel) rfl rfl (Nat.le_of_ble_eq_true rfl) dX7_init_25 (fun H locs hp hd hs => ?_)
  refine kz_re (w2 := [(q_25, .inr (7, [.ref q_1, .ref q_2, .null, .null, .null, .null, .int 0, .int 0])), (q_1, .inl (ty 0, Int32.toNatClampNeg n, .inl (fun _ => 0))), (q_2, .inl (ty 0, Int32.toNatClampNeg n, .inl (fun _ => 0)))]) hp hd hs rfl ?_
  clear hp hd hs hP hD hS
  intro hP hD hS
  refine lv_aload_n hx hb dX7_init_28 rfl (lv_at hl 0 rfl) ?_
  refine lv_iload_n hx hb dX7_init_29 rfl (lv_at hl 1 rfl) ?_
  refine va_newa (atype := .int) (ty := .int) (N' := Int32.toNatClampNeg n) (a0 := (Int32.toNatClampNeg n, .inl (fun _ => 0))) hx hb (hts (.arrayClass .int) f9_wsX7_init_336) rfl hK hP hD hS hA (fun _ => rfl) hn rfl hnb (Nat.le_of_ble_eq_true rfl) (by dsimp only [headSpec]; omega) dX7_init_30 (fun q_3 cA H hK2 hp hd hs => ?_)
  obtain rfl : cA = ty 0 := kz_cA (t0 := 0) (t1 := 6) hK2 rfl rfl rfl
  refine kz_re (w2 := [(q_25, .inr (7, [.ref q_1, .ref q_2, .null, .null, .null, .null, .int 0, .int 0])), (q_1, .inl (ty 0, Int32.toNatClampNeg n, .inl (fun _ => 0))), (q_2, .inl (ty 0, Int32.toNatClampNeg n, .inl (fun _ => 0))), (q_3, .inl (ty 0, Int32.toNatClampNeg n, .inl (fun _ => 0)))]) hp hd hs rfl ?_
  clear hp hd hs hP hD hS
  intro hP hD hS
  refine va_putF (D := D) (ci := 7) (v := .ref q_3) (ty := .array .int) (C := RX7) (T := TX7) (N := 8) hx hb hts u9_wsX7_init_X7 tyX7 tyX7_ok nmX7 hown hK hP hD hS 0 rfl rfl 2 (by decide) (hts (.fieldLink RX7 23 "TurnedFloors$Text" "sumFrom" "[I") f9_wsX7_init_339) (fun _ h9 => h9) rfl hin rfl (by decide +kernel) rfl rfl (Nat.le_of_ble_eq_true rfl) dX7_init_32 (fun H locs hp hd hs => ?_)
  refine kz_re (w2 := [(q_25, .inr (7, [.ref q_1, .ref q_2, .ref q_3, .null, .null, .null, .int 0, .int 0])), (q_1, .inl (ty 0, Int32.toNatClampNeg n, .inl (fun _ => 0))), (q_2, .inl (ty 0, Int32.toNatClampNeg n, .inl (fun _ => 0))), (q_3, .inl (ty 0, Int32.toNatClampNeg n, .inl (fun _ => 0)))]) hp hd hs rfl ?_
  clear hp hd hs hP hD hS
  intro hP hD hS
  refine lv_aload_n hx hb dX7_init_35 rfl (lv_at hl 0 rfl) ?_
  refine lv_iload_n hx hb dX7_init_36 rfl (lv_at hl 1 rfl) ?_
  refine va_newa (atype := .int) (ty := .int) (N' := Int32.toNatClampNeg n) (a0 := (Int32.toNatClampNeg n, .inl (fun _ => 0))) hx hb (hts (.arrayClass .int) f9_wsX7_init_336) rfl hK hP hD hS hA (fun _ => rfl) hn rfl hnb (Nat.le_of_ble_eq_true rfl) (by dsimp only [headSpec]; omega) dX7_init_37 (fun q_4 cA H hK2 hp hd hs => ?_)
  obtain rfl : cA = ty 0 := kz_cA (t0 := 0) (t1 := 6) hK2 rfl rfl rfl
  refine kz_re (w2 := [(q_25, .inr (7, [.ref q_1, .ref q_2, .ref q_3, .null, .null, .null, .int 0, .int 0])), (q_1, .inl (ty 0, Int32.toNatClampNeg n, .inl (fun _ => 0))), (q_2, .inl (ty 0, Int32.toNatClampNeg n, .inl (fun _ => 0))), (q_3, .inl (ty 0, Int32.toNatClampNeg n, .inl (fun _ => 0))), (q_4, .inl (ty 0, Int32.toNatClampNeg n, .inl (fun _ => 0)))]) hp hd hs rfl ?_
  clear hp hd hs hP hD hS
  intro hP hD hS
  refine va_putF (D := D) (ci := 7) (v := .ref q_4) (ty := .array .int) (C := RX7) (T := TX7) (N := 8) hx hb hts u9_wsX7_init_X7 tyX7 tyX7_ok nmX7 hown hK hP hD hS 0 rfl rfl 3 (by decide) (hts (.fieldLink RX7 26 "TurnedFloors$Text" "testFrom" "[I") f9_wsX7_init_340) (fun _ h9 => h9) rfl hin rfl (by decide +kernel) rfl rfl (Nat.le_of_ble_eq_true rfl) dX7_init_39 (fun H locs hp hd hs => ?_)
  refine kz_re (w2 := [(q_25, .inr (7, [.ref q_1, .ref q_2, .ref q_3, .ref q_4, .null, .null, .int 0, .int 0])), (q_1, .inl (ty 0, Int32.toNatClampNeg n, .inl (fun _ => 0))), (q_2, .inl (ty 0, Int32.toNatClampNeg n, .inl (fun _ => 0))), (q_3, .inl (ty 0, Int32.toNatClampNeg n, .inl (fun _ => 0))), (q_4, .inl (ty 0, Int32.toNatClampNeg n, .inl (fun _ => 0)))]) hp hd hs rfl ?_
  clear hp hd hs hP hD hS
  intro hP hD hS
  refine lv_aload_n hx hb dX7_init_42 rfl (lv_at hl 0 rfl) ?_
  refine lv_iload_n hx hb dX7_init_43 rfl (lv_at hl 1 rfl) ?_
  refine va_newa (atype := .int) (ty := .int) (N' := Int32.toNatClampNeg n) (a0 := (Int32.toNatClampNeg n, .inl (fun _ => 0))) hx hb (hts (.arrayClass .int) f9_wsX7_init_336) rfl hK hP hD hS hA (fun _ => rfl) hn rfl hnb (Nat.le_of_ble_eq_true rfl) (by dsimp only [headSpec]; omega) dX7_init_44 (fun q_5 cA H hK2 hp hd hs => ?_)
  obtain rfl : cA = ty 0 := kz_cA (t0 := 0) (t1 := 6) hK2 rfl rfl rfl
  refine kz_re (w2 := [(q_25, .inr (7, [.ref q_1, .ref q_2, .ref q_3, .ref q_4, .null, .null, .int 0, .int 0])), (q_1, .inl (ty 0, Int32.toNatClampNeg n, .inl (fun _ => 0))), (q_2, .inl (ty 0, Int32.toNatClampNeg n, .inl (fun _ => 0))), (q_3, .inl (ty 0, Int32.toNatClampNeg n, .inl (fun _ => 0))), (q_4, .inl (ty 0, Int32.toNatClampNeg n, .inl (fun _ => 0))), (q_5, .inl (ty 0, Int32.toNatClampNeg n, .inl (fun _ => 0)))]) hp hd hs rfl ?_
  clear hp hd hs hP hD hS
  intro hP hD hS
  refine va_putF (D := D) (ci := 7) (v := .ref q_5) (ty := .array .int) (C := RX7) (T := TX7) (N := 8) hx hb hts u9_wsX7_init_X7 tyX7 tyX7_ok nmX7 hown hK hP hD hS 0 rfl rfl 4 (by decide) (hts (.fieldLink RX7 29 "TurnedFloors$Text" "testTo" "[I") f9_wsX7_init_341) (fun _ h9 => h9) rfl hin rfl (by decide +kernel) rfl rfl (Nat.le_of_ble_eq_true rfl) dX7_init_46 (fun H locs hp hd hs => ?_)
  refine kz_re (w2 := [(q_25, .inr (7, [.ref q_1, .ref q_2, .ref q_3, .ref q_4, .ref q_5, .null, .int 0, .int 0])), (q_1, .inl (ty 0, Int32.toNatClampNeg n, .inl (fun _ => 0))), (q_2, .inl (ty 0, Int32.toNatClampNeg n, .inl (fun _ => 0))), (q_3, .inl (ty 0, Int32.toNatClampNeg n, .inl (fun _ => 0))), (q_4, .inl (ty 0, Int32.toNatClampNeg n, .inl (fun _ => 0))), (q_5, .inl (ty 0, Int32.toNatClampNeg n, .inl (fun _ => 0)))]) hp hd hs rfl ?_
  clear hp hd hs hP hD hS
  intro hP hD hS
  refine lv_aload_n hx hb dX7_init_49 rfl (lv_at hl 0 rfl) ?_
  refine lv_iload_n hx hb dX7_init_50 rfl (lv_at hl 2 rfl) ?_
  refine va_newa (atype := .int) (ty := .int) (N' := Int32.toNatClampNeg k) (a0 := (Int32.toNatClampNeg k, .inl (fun _ => 0))) hx hb (hts (.arrayClass .int) f9_wsX7_init_336) rfl hK hP hD hS hA (fun _ => rfl) hk rfl hkb (Nat.le_of_ble_eq_true rfl) (by dsimp only [headSpec]; omega) dX7_init_51 (fun q_6 cA H hK2 hp hd hs => ?_)
  obtain rfl : cA = ty 0 := kz_cA (t0 := 0) (t1 := 6) hK2 rfl rfl rfl
  refine kz_re (w2 := [(q_25, .inr (7, [.ref q_1, .ref q_2, .ref q_3, .ref q_4, .ref q_5, .null, .int 0, .int 0])), (q_1, .inl (ty 0, Int32.toNatClampNeg n, .inl (fun _ => 0))), (q_2, .inl (ty 0, Int32.toNatClampNeg n, .inl (fun _ => 0))), (q_3, .inl (ty 0, Int32.toNatClampNeg n, .inl (fun _ => 0))), (q_4, .inl (ty 0, Int32.toNatClampNeg n, .inl (fun _ => 0))), (q_5, .inl (ty 0, Int32.toNatClampNeg n, .inl (fun _ => 0))), (q_6, .inl (ty 0, Int32.toNatClampNeg k, .inl (fun _ => 0)))]) hp hd hs rfl ?_
  clear hp hd hs hP hD hS
  intro hP hD hS
  refine va_putF (D := D) (ci := 7) (v := .ref q_6) (ty := .array .int) (C := RX7) (T := TX7) (N := 8) hx hb hts u9_wsX7_init_X7 tyX7 tyX7_ok nmX7 hown hK hP hD hS 0 rfl rfl 5 (by decide) (hts (.fieldLink RX7 32 "TurnedFloors$Text" "code" "[I") f9_wsX7_init_342) (fun _ h9 => h9) rfl hin rfl (by decide +kernel) rfl rfl (Nat.le_of_ble_eq_true rfl) dX7_init_53 (fun H locs hp hd hs => ?_)
  refine kz_re (w2 := [(q_25, .inr (7, [.ref q_1, .ref q_2, .ref q_3, .ref q_4, .ref q_5, .ref q_6, .int 0, .int 0])), (q_1, .inl (ty 0, Int32.toNatClampNeg n, .inl (fun _ => 0))), (q_2, .inl (ty 0, Int32.toNatClampNeg n, .inl (fun _ => 0))), (q_3, .inl (ty 0, Int32.toNatClampNeg n, .inl (fun _ => 0))), (q_4, .inl (ty 0, Int32.toNatClampNeg n, .inl (fun _ => 0))), (q_5, .inl (ty 0, Int32.toNatClampNeg n, .inl (fun _ => 0))), (q_6, .inl (ty 0, Int32.toNatClampNeg k, .inl (fun _ => 0)))]) hp hd hs rfl ?_
  clear hp hd hs hP hD hS
  intro hP hD hS
  refine W.widen (k := 6) (n := ns) (by decide) (by omega) ?_
  exact kz_vret hx hb hr hlocks hP hK hD hS dX7_init_56 ⟨q_1, q_2, q_3, q_4, q_5, q_6, rfl⟩
end
