/-! long numbers of a packed tower -/
/-! numbers shifted by constants, told as integers -/
theorem bm32 {z : Int} (h1 : -2147483648 ≤ z) (h2 : z < 2147483648) : Int.bmod z (2 ^ 32) = z := Int.bmod_eq_of_le (by omega) (by omega)
theorem bm64 {z : Int} (h1 : -9223372036854775808 ≤ z) (h2 : z < 9223372036854775808) : Int.bmod z (2 ^ 64) = z := Int.bmod_eq_of_le (by omega) (by omega)
theorem w_i32 {x : Int64} (h1 : -2147483648 ≤ x.toInt) (h2 : x.toInt < 2147483648) : x.toInt32.toInt = x.toInt := by rw [Int64.toInt_toInt32]; exact bm32 h1 h2
theorem w_shr (x n : Int64) {k : Nat} (hn : (n.toBitVec.smod 64).toNat = k) : (x >>> n).toInt = x.toInt / 2 ^ k := by
  show (x.toBitVec.sshiftRight' (n.toBitVec.smod 64)).toInt = _
  rw [BitVec.toInt_sshiftRight', hn, Int.shiftRight_eq_div_pow]
  rfl
theorem w_shr32 (x n : Int32) {k : Nat} (hn : (n.toBitVec.smod 32).toNat = k) : (x >>> n).toInt = x.toInt / 2 ^ k := by
  show (x.toBitVec.sshiftRight' (n.toBitVec.smod 32)).toInt = _
  rw [BitVec.toInt_sshiftRight', hn, Int.shiftRight_eq_div_pow]
  rfl
theorem w_shl (x n : Int64) {k : Nat} (hn : (n.toBitVec.smod 64).toNat = k) (h1 : -9223372036854775808 ≤ x.toInt * 2 ^ k) (h2 : x.toInt * 2 ^ k < 9223372036854775808) : (x <<< n).toInt = x.toInt * 2 ^ k := by
  show (x.toBitVec <<< (n.toBitVec.smod 64)).toInt = _
  rw [BitVec.shiftLeft_eq', BitVec.toInt_shiftLeft, hn, Nat.shiftLeft_eq, Int.natCast_mul, Int.natCast_pow, ← Int.bmod_mul_bmod, ← BitVec.toInt_eq_toNat_bmod]
  exact bm64 h1 h2
theorem w_shl32 (x n : Int32) {k : Nat} (hn : (n.toBitVec.smod 32).toNat = k) (h1 : -2147483648 ≤ x.toInt * 2 ^ k) (h2 : x.toInt * 2 ^ k < 2147483648) : (x <<< n).toInt = x.toInt * 2 ^ k := by
  show (x.toBitVec <<< (n.toBitVec.smod 32)).toInt = _
  rw [BitVec.shiftLeft_eq', BitVec.toInt_shiftLeft, hn, Nat.shiftLeft_eq, Int.natCast_mul, Int.natCast_pow, ← Int.bmod_mul_bmod, ← BitVec.toInt_eq_toNat_bmod]
  exact bm32 h1 h2
theorem w_and (x m : Int64) (M : Nat) (hm : m.toBitVec.toNat = M) (hM : M < 2147483648) : 0 ≤ (Int64.toInt32 (x &&& m)).toInt ∧ (Int64.toInt32 (x &&& m)).toInt ≤ (M : Int) := by
  have h1 : (x.toBitVec &&& m.toBitVec).toNat ≤ M := by rw [BitVec.toNat_and, hm]; exact Nat.and_le_right
  have h2 : (x &&& m).toInt = ((x.toBitVec &&& m.toBitVec).toNat : Int) := by
    show (x.toBitVec &&& m.toBitVec).toInt = _
    rw [BitVec.toInt_eq_toNat_cond, if_pos (by omega)]
  rw [w_i32 (by omega) (by omega), h2]
  omega
def pkB (i : Int) : Int := if i = 0 then 8 else if i = 1 then 128 else if i = 2 then 2048 else if i = 3 then 32768 else if i = 4 then 524288 else if i = 5 then 8388608 else 134217728
def upB (i : Int) : Int := if i = 5 then 549755813888 else if i = 4 then 34359738368 else if i = 3 then 2147483648 else if i = 2 then 134217728 else if i = 1 then 8388608 else if i = 0 then 524288 else 32768
theorem pkB_le {x i : Int} (h : x < pkB i) : x < 134217728 := by
  have h2 : ∀ i : Int, pkB i ≤ 134217728 := by
    intro i
    unfold pkB
    repeat' split
    all_goals omega
  have := h2 i
  omega
theorem pkB_s {x r g i : Int} (h0 : 0 ≤ i) (h5 : i ≤ 5) (h : x < pkB i) (hr : r ≤ 7) (hg : g ≤ 1) : 16 * x + 2 * r + g < pkB (i + 1) := by
  have hc : i = 0 ∨ i = 1 ∨ i = 2 ∨ i = 3 ∨ i = 4 ∨ i = 5 := by omega
  rcases hc with e | e | e | e | e | e
  · subst e; replace h : x < 8 := h; show 16 * x + 2 * r + g < 128; omega
  · subst e; replace h : x < 128 := h; show 16 * x + 2 * r + g < 2048; omega
  · subst e; replace h : x < 2048 := h; show 16 * x + 2 * r + g < 32768; omega
  · subst e; replace h : x < 32768 := h; show 16 * x + 2 * r + g < 524288; omega
  · subst e; replace h : x < 524288 := h; show 16 * x + 2 * r + g < 8388608; omega
  · subst e; replace h : x < 8388608 := h; show 16 * x + 2 * r + g < 134217728; omega
theorem upB_m {x i : Int} (hi : i = -1) (h : x < upB i) : x < 32768 := by
  subst hi; exact h
theorem upB_s {x i : Int} (h0 : 0 ≤ i) (h5 : i ≤ 5) (h : x < upB i) : x / 2 ^ 4 < upB (i + (-1)) := by
  have hc : i = 0 ∨ i = 1 ∨ i = 2 ∨ i = 3 ∨ i = 4 ∨ i = 5 := by omega
  rcases hc with e | e | e | e | e | e
  · subst e; replace h : x < 524288 := h; show x / 2 ^ 4 < 32768; omega
  · subst e; replace h : x < 8388608 := h; show x / 2 ^ 4 < 524288; omega
  · subst e; replace h : x < 134217728 := h; show x / 2 ^ 4 < 8388608; omega
  · subst e; replace h : x < 2147483648 := h; show x / 2 ^ 4 < 134217728; omega
  · subst e; replace h : x < 34359738368 := h; show x / 2 ^ 4 < 2147483648; omega
  · subst e; replace h : x < 549755813888 := h; show x / 2 ^ 4 < 34359738368; omega
theorem sh1_32 {r : Int32} (h0 : 0 ≤ r.toInt) (h1 : r.toInt ≤ 7) : (r <<< ((1 : Int32) &&& 31)).toInt = 2 * r.toInt := by
  obtain ⟨n, rfl, hn, -⟩ := ti_nI h0
  have h : ∀ n : Nat, n < 8 → (nI n <<< ((1 : Int32) &&& 31)).toInt = 2 * (n : Int) := by decide +kernel
  rw [h n (by omega), ← hn]
theorem pk_step {x : Int64} {r h : Int32} (hx0 : 0 ≤ x.toInt) (hx : x.toInt < 134217728) (hr0 : 0 ≤ r.toInt) (hr : r.toInt ≤ 7) (hh0 : 0 ≤ h.toInt) (hh : h.toInt ≤ 1) : ((x <<< (Int32.toInt64 (4 : Int32) &&& 63)) ||| Int32.toInt64 (r <<< ((1 : Int32) &&& 31)) ||| Int32.toInt64 h).toInt = 16 * x.toInt + 2 * r.toInt + h.toInt := by
  have e1 : (x <<< (Int32.toInt64 (4 : Int32) &&& 63)).toInt = x.toInt * 2 ^ 4 := w_shl x _ (by decide) (by omega) (by omega)
  have e3 : (Int32.toInt64 (r <<< ((1 : Int32) &&& 31))).toInt = 2 * r.toInt := by rw [Int32.toInt_toInt64, sh1_32 hr0 hr]
  have e4 := k2_or_add (x := x <<< (Int32.toInt64 (4 : Int32) &&& 63)) (y := Int32.toInt64 (r <<< ((1 : Int32) &&& 31))) (k := 4) (z := x.toInt) (by decide) hx0 e1 (by omega) (by omega) (by omega)
  have e5 : (Int32.toInt64 h).toInt = h.toInt := Int32.toInt_toInt64 h
  have e6 := k2_or_add (x := (x <<< (Int32.toInt64 (4 : Int32) &&& 63)) ||| Int32.toInt64 (r <<< ((1 : Int32) &&& 31))) (y := Int32.toInt64 h) (k := 1) (z := 8 * x.toInt + r.toInt) (by decide) (by omega) (by omega) (by omega) (by omega) (by omega)
  rw [e6, e4, e1, e3, e5]
  omega
theorem pk_end {x : Int64} {p y : Int32} (hx0 : 0 ≤ x.toInt) (hx : x.toInt < 134217728) (hp0 : 0 ≤ p.toInt) (hp : p.toInt ≤ 16383) (hy0 : 0 ≤ y.toInt) (hy : y.toInt ≤ 1023) : 0 ≤ ((((x <<< (Int32.toInt64 (14 : Int32) &&& 63)) ||| Int32.toInt64 p) <<< (Int32.toInt64 (10 : Int32) &&& 63)) ||| Int32.toInt64 y).toInt := by
  have e1 : (x <<< (Int32.toInt64 (14 : Int32) &&& 63)).toInt = x.toInt * 2 ^ 14 := w_shl x _ (by decide) (by omega) (by omega)
  have e2 : (Int32.toInt64 p).toInt = p.toInt := Int32.toInt_toInt64 p
  have e3 : (Int32.toInt64 y).toInt = y.toInt := Int32.toInt_toInt64 y
  have e4 := k2_or_add (x := x <<< (Int32.toInt64 (14 : Int32) &&& 63)) (y := Int32.toInt64 p) (k := 14) (z := x.toInt) (by decide) hx0 e1 (by omega) (by omega) (by omega)
  generalize hg : (x <<< (Int32.toInt64 (14 : Int32) &&& 63)) ||| Int32.toInt64 p = g at e4 ⊢
  have e5 : (g <<< (Int32.toInt64 (10 : Int32) &&& 63)).toInt = g.toInt * 2 ^ 10 := w_shl g _ (by decide) (by omega) (by omega)
  have e6 := k2_or_add (x := g <<< (Int32.toInt64 (10 : Int32) &&& 63)) (y := Int32.toInt64 y) (k := 10) (z := g.toInt) (by decide) (by omega) e5 (by omega) (by omega) (by omega)
  rw [e6]
  omega
theorem um_1 (x : Int64) : 0 ≤ (Int64.toInt32 (x &&& 1)).toInt ∧ (Int64.toInt32 (x &&& 1)).toInt ≤ 1 := w_and x 1 1 (by decide) (by decide)
theorem um_7 (x : Int64) : 0 ≤ (Int64.toInt32 (x &&& 7)).toInt ∧ (Int64.toInt32 (x &&& 7)).toInt ≤ 7 := w_and x 7 7 (by decide) (by decide)
theorem um_10 (x : Int64) : 0 ≤ (Int64.toInt32 (x &&& 1023)).toInt ∧ (Int64.toInt32 (x &&& 1023)).toInt ≤ 1023 := w_and x 1023 1023 (by decide) (by decide)
theorem um_14 (x : Int64) : 0 ≤ (Int64.toInt32 (x &&& 16383)).toInt ∧ (Int64.toInt32 (x &&& 16383)).toInt ≤ 16383 := w_and x 16383 16383 (by decide) (by decide)
theorem us_4 (x : Int64) : (x >>> (Int32.toInt64 (4 : Int32) &&& 63)).toInt = x.toInt / 2 ^ 4 := w_shr x _ (by decide)
theorem us_24 (x : Int64) : (x >>> (Int32.toInt64 (24 : Int32) &&& 63)).toInt = x.toInt / 2 ^ 24 := w_shr x _ (by decide)
/-- rows without a range -/
def freeR : List Nat := [5, 6, 8, 9, 12, 14, 19, 21, 23, 26, 27, 33, 34, 35, 37, 38, 42, 43, 44, 45, 46, 48, 53, 54, 60, 61]
theorem free_r : ∀ j ∈ freeR, ∀ k : Nat, clo j k = -2147483648 ∧ chi j k = 2147483647 := by
  intro j hj k
  simp only [freeR, List.mem_cons, List.not_mem_nil, or_false] at hj
  rcases hj with e | e | e | e | e | e | e | e | e | e | e | e | e | e | e | e | e | e | e | e | e | e | e | e | e | e <;> subst e <;> exact ⟨rfl, rfl⟩
theorem tc_fr {q q' : dK} (h : TC q) (S : List Nat) (hS : ∀ j ∈ S, j ∈ freeR) (h1 : ∀ j k : Nat, j ∉ S → q'.1 j k = q.1 j k) (h2 : CL q') (h3 : q'.2.2 = q.2.2) : TC q' := by
  obtain ⟨hE, hC, hP, hL, hT⟩ := h
  have n7 : 7 ∉ S := fun z => absurd (hS 7 z) (by decide)
  have n20 : 20 ∉ S := fun z => absurd (hS 20 z) (by decide)
  have n32 : 32 ∉ S := fun z => absurd (hS 32 z) (by decide)
  have n31 : 31 ∉ S := fun z => absurd (hS 31 z) (by decide)
  have n39 : 39 ∉ S := fun z => absurd (hS 39 z) (by decide)
  have n55 : 55 ∉ S := fun z => absurd (hS 55 z) (by decide)
  have n62 : 62 ∉ S := fun z => absurd (hS 62 z) (by decide)
  refine ⟨fun j k => ?_, ?_, ?_, h2, by rw [h3]; exact hT⟩
  · by_cases c : j ∈ S
    · have hr := ti_rg (q'.1 j k)
      have hf := free_r j (hS j c) k
      rw [hf.1, hf.2]; exact hr
    · rw [h1 j k c]; exact hE j k
  · unfold CC
    rw [h3]
    refine ⟨by rw [h1 20 2 n20]; exact hC.1, fun i => ?_⟩
    rw [h1 7 i n7, h1 55 i n55, h1 62 i n62, h1 31 i n31, h1 39 i n39]; exact hC.2 i
  · unfold PL
    rw [h1 32 100 n32, h1 32 101 n32, h1 32 102 n32, h1 32 103 n32, h1 32 104 n32, h1 32 105 n32, h1 32 106 n32]; exact hP
theorem tc_cci {q : dK} (h : TC q) {j0 j s d n : Nat} (hj : j ∈ freeR) : TC (cci q j0 j s d n) := by
  refine tc_fr h [j] (fun a ha => by rw [List.mem_singleton] at ha; rw [ha]; exact hj) (fun a k ha => ?_) h.2.2.2.1 rfl
  have e : (cci q j0 j s d n).1 a = q.1 a := if_neg (fun z => ha (by rw [z]; exact List.mem_singleton.mpr rfl))
  rw [e]
theorem tc_cfi {q : dK} (h : TC q) {j n : Nat} {v : Int32} (hj : j ∈ freeR) : TC (cfi q j n v) := by
  refine tc_fr h [j] (fun a ha => by rw [List.mem_singleton] at ha; rw [ha]; exact hj) (fun a k ha => ?_) h.2.2.2.1 rfl
  have e : (cfi q j n v).1 a = q.1 a := if_neg (fun z => ha (by rw [z]; exact List.mem_singleton.mpr rfl))
  rw [e]
theorem tc_cfi36 {q : dK} (h : TC q) {n : Nat} : TC (cfi q 36 n 0) := by
  obtain ⟨hE, hC, hP, hL, hT⟩ := h
  have e : ∀ a : Nat, ¬ a = 36 → (cfi q 36 n 0).1 a = q.1 a := fun a ha => if_neg ha
  have e2 : (cfi q 36 n 0).1 36 = kz_fl (q.1 36) n 0 := by
    show (if (36 : Nat) = 36 then kz_fl (q.1 36) n 0 else q.1 36) = _
    rw [if_pos rfl]
  refine ⟨fun j k => ?_, ?_, ?_, hL, hT⟩
  · by_cases c : j = 36
    · subst c
      rw [e2]
      unfold kz_fl
      split
      · exact ⟨(by decide : (0 : Int) ≤ 0), (by decide : (0 : Int) ≤ 99)⟩
      · exact hE 36 k
    · rw [e j c]; exact hE j k
  · refine ⟨by rw [e 20 (by decide)]; exact hC.1, fun i => ?_⟩
    rw [e 7 (by decide), e 55 (by decide), e 62 (by decide), e 31 (by decide), e 39 (by decide)]; exact hC.2 i
  · unfold PL
    rw [e 32 (by decide)]; exact hP
theorem tc_ccl {q : dK} (h : TC q) {j0 j s d n : Nat} (hj0 : j0 = 11 ∨ j0 = 13) : TC (ccl q j0 j s d n) := by
  refine tc_fr h [] (fun a ha => absurd ha List.not_mem_nil) (fun a k _ => rfl) (fun k => ?_) rfl
  have hL := h.2.2.2.1
  have g0 : ∀ i : Nat, 0 ≤ (q.2.1 j0 i).toInt := by
    intro i
    rcases hj0 with e | e
    · rw [e]; exact (hL i).1
    · rw [e]; exact (hL i).2
  have g : ∀ a : Nat, (0 ≤ (q.2.1 a k).toInt) → 0 ≤ ((ccl q j0 j s d n).2.1 a k).toInt := by
    intro a ha
    show 0 ≤ ((if a = j then va_cpy (q.2.1 j0) (q.2.1 j) s d n else q.2.1 a) k).toInt
    by_cases c : a = j
    · rw [if_pos c]
      unfold va_cpy
      split
      · exact g0 _
      · rw [← c]; exact ha
    · rw [if_neg c]; exact ha
  exact ⟨g 11 (hL k).1, g 13 (hL k).2⟩
theorem cFr.h {S : List Nat} {F : List (Nat × Nat)} {q q' : dK} (h : cFr S F q q') {j0 j s d n : Nat} : cFr S F q (ccl q' j0 j s d n) := h
theorem cFr.fl {S : List Nat} {F : List (Nat × Nat)} {q q' : dK} (h : cFr S F q q') {j n : Nat} {v : Int64} : cFr S F q (cfl q' j n v) := h
theorem tc_cfl {q : dK} (h : TC q) {j n : Nat} {v : Int64} (hj : ¬ j = 11 ∧ ¬ j = 13) : TC (cfl q j n v) := by
  refine tc_fr h [] (fun a ha => absurd ha List.not_mem_nil) (fun a k _ => rfl) (fun k => ?_) rfl
  have e : ∀ a : Nat, ¬ a = j → (cfl q j n v).2.1 a = q.2.1 a := fun a ha => if_neg ha
  rw [e 11 (fun z => hj.1 z.symm), e 13 (fun z => hj.2 z.symm)]
  exact h.2.2.2.1 k
theorem ti_shr {x s : Int32} (h : 0 ≤ x.toInt) : 0 ≤ (x >>> (s &&& 31)).toInt ∧ (x >>> (s &&& 31)).toInt ≤ x.toInt := by
  have e := w_shr32 x (s &&& 31) (k := ((s &&& 31).toBitVec.smod 32).toNat) rfl
  have h2 : (0 : Int) < 2 ^ ((s &&& 31).toBitVec.smod 32).toNat := Int.pow_pos (by decide)
  rw [e]
  exact ⟨Int.ediv_nonneg h (Int.le_of_lt h2), Int.ediv_le_self _ h⟩
theorem ti_and15 (x : Int32) : 0 ≤ (x &&& 15).toInt ∧ (x &&& 15).toInt ≤ 15 := by
  have h := pk_and x (m := 15) 4 (by decide)
  rw [h, nI_toInt (by omega)]
  omega
theorem of_cl {x : Int32} (h : 0 ≤ x.toInt) : Int32.toInt (Int32.ofNat (Int32.toNatClampNeg x)) = x.toInt := by
  have h2 := cl_lt x
  have h3 := cl_eq h
  have h4 : Int32.toInt (nI (Int32.toNatClampNeg x)) = ((Int32.toNatClampNeg x : Nat) : Int) := nI_toInt (by omega)
  exact h4.trans h3
/-! a law's text by its parts -/
noncomputable def txFun : Nat → dK → Int32 → Int32 := Classical.choose (⟨_, rfl⟩ : ∃ f : Nat → dK → Int32 → Int32, f = fun i q c => if i = 0 then (dTx q c).1 else if i = 1 then (dTx q c).2.1 else if i = 2 then (dTx q c).2.2.1 else (dTx q c).2.2.2.1)
theorem txFun_e : txFun = fun i q c => if i = 0 then (dTx q c).1 else if i = 1 then (dTx q c).2.1 else if i = 2 then (dTx q c).2.2.1 else (dTx q c).2.2.2.1 := Classical.choose_spec (⟨_, rfl⟩ : ∃ f : Nat → dK → Int32 → Int32, f = fun i q c => if i = 0 then (dTx q c).1 else if i = 1 then (dTx q c).2.1 else if i = 2 then (dTx q c).2.2.1 else (dTx q c).2.2.2.1)
noncomputable def txRun : dK → Int32 → Nat → Nat → Int32 := Classical.choose (⟨_, rfl⟩ : ∃ f : dK → Int32 → Nat → Nat → Int32, f = fun q c => (dTx q c).2.2.2.2)
theorem txRun_e : txRun = fun q c => (dTx q c).2.2.2.2 := Classical.choose_spec (⟨_, rfl⟩ : ∃ f : dK → Int32 → Nat → Nat → Int32, f = fun q c => (dTx q c).2.2.2.2)
noncomputable def txC (q : dK) (c : Int32) : Int32 := txFun 0 q c
noncomputable def txL (q : dK) (c : Int32) : Int32 := txFun 1 q c
noncomputable def txN (q : dK) (c : Int32) : Int32 := txFun 2 q c
noncomputable def txK (q : dK) (c : Int32) : Int32 := txFun 3 q c
noncomputable def txR (q : dK) (c : Int32) : Nat → Nat → Int32 := txRun q c
theorem txC_r (q : dK) (c : Int32) : (dTx q c).1 = txC q c := by unfold txC; rw [txFun_e]; rfl
theorem txL_r (q : dK) (c : Int32) : (dTx q c).2.1 = txL q c := by unfold txL; rw [txFun_e]; rfl
theorem txN_r (q : dK) (c : Int32) : (dTx q c).2.2.1 = txN q c := by unfold txN; rw [txFun_e]; rfl
theorem txK_r (q : dK) (c : Int32) : (dTx q c).2.2.2.1 = txK q c := by unfold txK; rw [txFun_e]; rfl
theorem txR_r (q : dK) (c : Int32) : (dTx q c).2.2.2.2 = txR q c := by unfold txR; rw [txRun_e]
theorem tx_C {q : dK} {c : Int32} (hT : TC q) (hd : dlg q c = true) : 0 ≤ Int32.toInt (txC q c) ∧ Int32.toInt (txC q c) ≤ 12 := by rw [← txC_r]; exact ⟨(tc_txt hT hd).1, (tc_txt hT hd).2.1⟩
theorem tx_L {q : dK} {c : Int32} (hT : TC q) (hd : dlg q c = true) : 0 ≤ Int32.toInt (txL q c) ∧ Int32.toInt (txL q c) ≤ 400 := by rw [← txL_r]; exact ⟨(tc_txt hT hd).2.2.1, (tc_txt hT hd).2.2.2.1⟩
theorem tx_N2 {q : dK} {c : Int32} (hT : TC q) (hd : dlg q c = true) : Int32.toInt (txN q c) = Int32.toInt (txC q c) := by rw [← txC_r, ← txN_r]; exact congrArg Int32.toInt (tc_txt hT hd).2.2.2.2.1
theorem tx_K2 {q : dK} {c : Int32} (hT : TC q) (hd : dlg q c = true) : Int32.toInt (txK q c) = Int32.toInt (txL q c) := by rw [← txL_r, ← txK_r]; exact congrArg Int32.toInt (tc_txt hT hd).2.2.2.2.2.1
theorem tx_N {q : dK} {c : Int32} (hT : TC q) (hd : dlg q c = true) : 0 ≤ Int32.toInt (txN q c) ∧ Int32.toInt (txN q c) ≤ 12 := by rw [tx_N2 hT hd]; exact tx_C hT hd
theorem tx_K {q : dK} {c : Int32} (hT : TC q) (hd : dlg q c = true) : 0 ≤ Int32.toInt (txK q c) ∧ Int32.toInt (txK q c) ≤ 400 := by rw [tx_K2 hT hd]; exact tx_L hT hd
theorem tx_R {q : dK} {c : Int32} (hT : TC q) (hd : dlg q c = true) (j i : Nat) (hj : 2 ≤ j) : 0 ≤ Int32.toInt (txR q c j i) := by rw [← txR_r]; exact ((tc_txt hT hd).2.2.2.2.2.2 j i hj).1
theorem tx_O {q : dK} {c : Int32} (hT : TC q) (hd : dlg q c = true) (i : Nat) : cOp (txR q c 5 i) := by rw [← txR_r]; exact ((tc_txt hT hd).2.2.2.2.2.2 5 i (by decide)).2 rfl
theorem tx_e {q q' : dK} {c : Int32} (h : q'.2.2 = q.2.2) : dTx q' c = dTx q c := by unfold dTx; rw [h]
theorem tx_eqC {q q' : dK} {c : Int32} (h : q'.2.2 = q.2.2) : Int32.toInt (txC q' c) = Int32.toInt (txC q c) := by rw [← txC_r, ← txC_r, tx_e h]
theorem tx_eqL {q q' : dK} {c : Int32} (h : q'.2.2 = q.2.2) : Int32.toInt (txL q' c) = Int32.toInt (txL q c) := by rw [← txL_r, ← txL_r, tx_e h]
theorem tx_eqN {q q' : dK} {c : Int32} (h : q'.2.2 = q.2.2) : Int32.toInt (txN q' c) = Int32.toInt (txN q c) := by rw [← txN_r, ← txN_r, tx_e h]
theorem tx_eqK {q q' : dK} {c : Int32} (h : q'.2.2 = q.2.2) : Int32.toInt (txK q' c) = Int32.toInt (txK q c) := by rw [← txK_r, ← txK_r, tx_e h]
theorem ti_xor1 {x y : Int32} (h0 : 0 ≤ x.toInt) (h1 : x.toInt ≤ 1) (g0 : 0 ≤ y.toInt) (g1 : y.toInt ≤ 1) : 0 ≤ (x ^^^ y).toInt ∧ (x ^^^ y).toInt ≤ 1 := by
  obtain ⟨n, rfl, hn, -⟩ := ti_nI h0
  obtain ⟨m, rfl, hm, -⟩ := ti_nI g0
  have h : ∀ n : Nat, n < 2 → ∀ m : Nat, m < 2 → 0 ≤ (nI n ^^^ nI m).toInt ∧ (nI n ^^^ nI m).toInt ≤ 1 := by decide +kernel
  exact h n (by omega) m (by omega)
theorem ti_and63 (x : Int32) : 0 ≤ (x &&& 63).toInt ∧ (x &&& 63).toInt ≤ 63 := by
  have h := pk_and x (m := 63) 6 (by decide)
  rw [h, nI_toInt (by omega)]
  omega
theorem em_or {a b : Int32} (h0 : 0 ≤ a.toInt) (h1 : a.toInt ≤ 2000) (g0 : 0 ≤ b.toInt) (g1 : b.toInt ≤ 15) : 0 ≤ ((a <<< ((4 : Int32) &&& 31)) ||| b).toInt := by
  have e : (a <<< ((4 : Int32) &&& 31)).toInt = a.toInt * 2 ^ 4 := w_shl32 a _ (by decide) (by omega) (by omega)
  exact (ti_or (x := a <<< ((4 : Int32) &&& 31)) (y := b) 20 (by decide) (by omega) (by omega) g0 (by omega)).1
theorem em_op {a b : Int32} (h0 : 0 ≤ a.toInt) (h1 : a.toInt ≤ 2000) (g0 : 0 ≤ b.toInt) (g1 : b.toInt ≤ 12) : cOp ((a <<< ((4 : Int32) &&& 31)) ||| b) := by
  have e : (a <<< ((4 : Int32) &&& 31)).toInt = a.toInt * 2 ^ 4 := w_shl32 a _ (by decide) (by omega) (by omega)
  obtain ⟨n, hn1, hn, hn2⟩ := ti_nI (x := a <<< ((4 : Int32) &&& 31)) (by omega)
  obtain ⟨m, rfl, hm, hm2⟩ := ti_nI g0
  unfold cOp
  rw [hn1, nI_or]
  have hd : n = 2 ^ 4 * a.toInt.toNat := by omega
  have ho : n ||| m = 2 ^ 4 * a.toInt.toNat + m := by rw [hd]; exact (Nat.two_pow_add_eq_or_of_lt (by omega) _).symm
  rw [pk_andN (by omega) 4 (by decide), ho, Nat.mul_add_mod, Nat.mod_eq_of_lt (by omega), nI_toInt (by omega)]
  omega
theorem ok_X9_nextDraw (p1 : Int32) (hp0 : 0 ≤ Int32.toInt p1) (hp1 : Int32.toInt p1 ≤ 1000002) : dOk (zX9_nextDraw p1) (fun (o : Int32) => (0 ≤ Int32.toInt o ∧ Int32.toInt o ≤ 1000002)) := by
  unfold zX9_nextDraw
  have e0 : (Int32.toInt64 p1).toInt = Int32.toInt p1 := Int32.toInt_toInt64 p1
  have e1 : (Int32.toInt64 p1 * 1103 : Int64).toInt = Int32.toInt p1 * 1103 := tl_mul e0 (by decide) (by omega) (by omega)
  have e2 : ((Int32.toInt64 p1 * 1103 : Int64) + 12345 : Int64).toInt = Int32.toInt p1 * 1103 + 12345 := tl_add e1 (by decide) (by omega) (by omega)
  have e3 := tl_rem (b := 1000003) (B := 1000003) e2 (by decide) (by omega) (by omega)
  refine dOk_L (fun v1 ev => dOk_some ?_)
  rw [← ev] at e3
  have e4 : (Int64.toInt32 v1).toInt = v1.toInt := w_i32 (by omega) (by omega)
  show 0 ≤ Int32.toInt (Int64.toInt32 v1) ∧ Int32.toInt (Int64.toInt32 v1) ≤ 1000002
  omega
