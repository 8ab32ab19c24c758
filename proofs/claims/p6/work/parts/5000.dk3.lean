/-! the class's state: numbers by place, long numbers by place, the texts of laws (clauses, length, lengths of the rows, rows) -/
abbrev dT : Type := Int32 × Int32 × Int32 × Int32 × (Nat → Nat → Int32)
abbrev dK : Type := (Nat → Nat → Int32) × (Nat → Nat → Int64) × List dT
def cui (q : dK) (j k : Nat) (v : Int32) : dK := (fun i => if i = j then upd (q.1 j) k v else q.1 i, q.2)
def cul (q : dK) (j k : Nat) (v : Int64) : dK := (q.1, fun i => if i = j then vp_updL (q.2.1 j) k v else q.2.1 i, q.2.2)
def cci (q : dK) (j0 j1 s d n : Nat) : dK := (fun i => if i = j1 then va_cpy (q.1 j0) (q.1 j1) s d n else q.1 i, q.2)
def ccl (q : dK) (j0 j1 s d n : Nat) : dK := (q.1, fun i => if i = j1 then va_cpy (q.2.1 j0) (q.2.1 j1) s d n else q.2.1 i, q.2.2)
def cfi (q : dK) (j n : Nat) (v : Int32) : dK := (fun i => if i = j then kz_fl (q.1 j) n v else q.1 i, q.2)
def cfl (q : dK) (j n : Nat) (v : Int64) : dK := (q.1, fun i => if i = j then kz_flL (q.2.1 j) n v else q.2.1 i, q.2.2)
def mnI (a b : Int32) : Int32 := if b < a then b else a
def mxI (a b : Int32) : Int32 := if a < b then b else a
/-- a new row of the paper: zeros, and its length -/
def cnw (q : dK) (j k : Nat) (n : Int32) : dK := (fun i => if i = j then (fun _ => 0) else if i = 32 then upd (q.1 32) k n else q.1 i, q.2)
