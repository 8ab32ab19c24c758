/-! the grammar moved along -/
theorem gEnd_sh {op op' : Nat → Prop} {X X' : Nat → Nat → Prop} {s : Nat} (ho : ∀ i : Nat, op i ↔ op' (s + i)) (hX : ∀ i j : Nat, X i j → X' (s + i) (s + j)) : ∀ n i j : Nat, gEnd op X n i j → gEnd op' X' n (s + i) (s + j) := by
  intro n
  induction n with
  | zero => intro i j h; exact ⟨hX i j h.1, fun z => h.2 ((ho j).mpr z)⟩
  | succ n ih =>
    intro i j h
    obtain ⟨m, h1, h2, h3⟩ := h
    exact ⟨s + m, hX i m h1, (ho m).mp h2, ih (m + 1) j h3⟩
theorem gSeq_sh {op op' : Nat → Prop} {X X' : Nat → Nat → Prop} {s : Nat} (ho : ∀ i : Nat, op i ↔ op' (s + i)) (hX : ∀ i j : Nat, X i j → X' (s + i) (s + j)) {i j : Nat} (h : gSeq op X i j) : gSeq op' X' (s + i) (s + j) := by
  obtain ⟨n, h⟩ := h
  exact ⟨n, gEnd_sh ho hX n i j h⟩
section SH
variable {C V C' V' : Nat → Int} {s : Nat} (hC : ∀ i : Nat, C' (s + i) = C i) (hV : ∀ i : Nat, ¬ C i = 0 → V' (s + i) = V i)
theorem gLeaf_sh (hC : ∀ i : Nat, C' (s + i) = C i) (hV : ∀ i : Nat, ¬ C i = 0 → V' (s + i) = V i) {o : Bool} {i j : Nat} (h : gLeaf o C V i j) : gLeaf o C' V' (s + i) (s + j) := by
  have h1 := hC i
  have h2 := hC (i + 1)
  cases o with
  | false =>
    have h : gLeafL C i j := h
    show gLeafL C' (s + i) (s + j)
    unfold gLeafL at *
    omega
  | true =>
    have h : gLeafO C V i j := h
    show gLeafO C' V' (s + i) (s + j)
    unfold gLeafO at *
    rcases h with h | ⟨h3, h4, h5, h6, h7⟩
    · exact Or.inl ⟨by omega, by omega⟩
    · have h8 := hV (i + 1) (by omega)
      have e : s + i + 1 = s + (i + 1) := by omega
      rw [e]
      exact Or.inr ⟨by omega, by omega, by omega, by omega, by omega⟩
theorem gMul_sh (hC : ∀ i : Nat, C' (s + i) = C i) (i : Nat) : gMul C i ↔ gMul C' (s + i) := by unfold gMul; rw [hC i]
theorem gAdd_sh (hC : ∀ i : Nat, C' (s + i) = C i) (i : Nat) : gAdd C i ↔ gAdd C' (s + i) := by unfold gAdd; rw [hC i]
theorem gPart_sh (hC : ∀ i : Nat, C' (s + i) = C i) (hV : ∀ i : Nat, ¬ C i = 0 → V' (s + i) = V i) {o : Bool} : ∀ d i j : Nat, gPart o C V d i j → gPart o C' V' d (s + i) (s + j) := by
  intro d
  induction d with
  | zero => intro i j h; exact gLeaf_sh hC hV h
  | succ d ih =>
    intro i j h
    rcases h with h | ⟨h1, m, h2, h3, rfl⟩
    · exact Or.inl (gLeaf_sh hC hV h)
    · refine Or.inr ⟨by rw [hC i]; exact h1, s + m, ?_, by rw [hC m]; exact h3, by omega⟩
      exact gSeq_sh (gAdd_sh hC) (fun i j h => gSeq_sh (gMul_sh hC) ih h) h2
theorem gSum_sh (hC : ∀ i : Nat, C' (s + i) = C i) (hV : ∀ i : Nat, ¬ C i = 0 → V' (s + i) = V i) {o : Bool} {d i j : Nat} (h : gSum o C V d i j) : gSum o C' V' d (s + i) (s + j) := gSeq_sh (gAdd_sh hC) (fun _ _ h => gSeq_sh (gMul_sh hC) (gPart_sh hC hV d) h) h
theorem gNots_sh (hC : ∀ i : Nat, C' (s + i) = C i) {i m : Nat} (h : gNots C i m) : gNots C' (s + i) (s + m) := by
  refine ⟨fun a h1 h2 => ?_, by have := h.2.1; omega, by rw [hC m]; exact h.2.2⟩
  have e : a = s + (a - s) := by omega
  rw [e, hC]
  exact h.1 (a - s) (by omega) (by omega)
theorem gCmp_sh (hC : ∀ i : Nat, C' (s + i) = C i) (hV : ∀ i : Nat, ¬ C i = 0 → V' (s + i) = V i) {o : Bool} {d m j : Nat} (h : gCmp o C V d m j) : gCmp o C' V' d (s + m) (s + j) := by
  obtain ⟨h1, n, h2, h3, h4⟩ := h
  exact ⟨by rw [hC m]; exact h1, s + n, gSum_sh hC hV h2, by rw [hC n]; exact h3, gSum_sh hC hV h4⟩
theorem c_sh (hC : ∀ i : Nat, C' (s + i) = C i) (x : Int) (i : Nat) : C i = x ↔ C' (s + i) = x := by rw [hC i]
theorem gPlain_sh (hC : ∀ i : Nat, C' (s + i) = C i) (hV : ∀ i : Nat, ¬ C i = 0 → V' (s + i) = V i) {o : Bool} : ∀ d i j : Nat, gPlain o C V d i j → gPlain o C' V' d (s + i) (s + j) := by
  intro d
  induction d with
  | zero =>
    intro i j h
    obtain ⟨m, h1, h2⟩ := h
    exact ⟨s + m, gNots_sh hC h1, gCmp_sh hC hV h2⟩
  | succ d ih =>
    intro i j h
    obtain ⟨m, h1, h2⟩ := h
    refine ⟨s + m, gNots_sh hC h1, ?_⟩
    rcases h2 with h2 | ⟨h2, n, h3, h4, rfl⟩
    · exact Or.inl (gCmp_sh hC hV h2)
    · exact Or.inr ⟨by rw [hC m]; exact h2, s + n, gSeq_sh (c_sh hC 5) (fun i j h => gSeq_sh (c_sh hC 6) ih h) h3, by rw [hC n]; exact h4, by omega⟩
theorem gTest_sh (hC : ∀ i : Nat, C' (s + i) = C i) (hV : ∀ i : Nat, ¬ C i = 0 → V' (s + i) = V i) {o : Bool} {d i j : Nat} (h : gTest o C V d i j) : gTest o C' V' d (s + i) (s + j) := gSeq_sh (c_sh hC 5) (fun _ _ h => gSeq_sh (c_sh hC 6) (gPlain_sh hC hV d) h) h
theorem gIf_sh (hC : ∀ i : Nat, C' (s + i) = C i) (hV : ∀ i : Nat, ¬ C i = 0 → V' (s + i) = V i) {o : Bool} {m j : Nat} (h : gIf o C V m j) : gIf o C' V' (s + m) (s + j) := by
  rcases h with ⟨h1, h2⟩ | ⟨h1, rfl⟩
  · exact Or.inl ⟨by rw [hC m]; exact h1, gTest_sh hC hV h2⟩
  · exact Or.inr ⟨by rw [hC]; exact h1, rfl⟩
theorem gClause_sh (hC : ∀ i : Nat, C' (s + i) = C i) (hV : ∀ i : Nat, ¬ C i = 0 → V' (s + i) = V i) {i j : Nat} (h : gClause C V i j) : gClause C' V' (s + i) (s + j) := by
  rcases h with ⟨h1, m, h2, h3⟩ | ⟨h1, h2⟩
  · exact Or.inl ⟨by rw [hC i]; exact h1, s + m, gSum_sh hC hV h2, gIf_sh hC hV h3⟩
  · exact Or.inr ⟨by rw [hC i]; exact h1, gIf_sh hC hV h2⟩
theorem gTimes_sh (hC : ∀ i : Nat, C' (s + i) = C i) (hV : ∀ i : Nat, ¬ C i = 0 → V' (s + i) = V i) {m j : Nat} (h : gTimes C V m j) : gTimes C' V' (s + m) (s + j) := by
  rcases h with ⟨h1, h2, h3, h4, h5⟩ | ⟨h1, h2⟩
  · have h6 := hV (m + 1) (by omega)
    have h7 := hC (m + 1)
    have e : s + m + 1 = s + (m + 1) := by omega
    refine Or.inl ⟨by rw [hC m]; exact h1, ?_, ?_, ?_, gIf_sh hC hV h5⟩
    · rw [e]; omega
    · rw [e]; omega
    · rw [e]; omega
  · exact Or.inr ⟨by rw [hC m]; exact h1, gIf_sh hC hV h2⟩
theorem gOrder_sh (hC : ∀ i : Nat, C' (s + i) = C i) (hV : ∀ i : Nat, ¬ C i = 0 → V' (s + i) = V i) {i j : Nat} (h : gOrder C V i j) : gOrder C' V' (s + i) (s + j) := by
  rcases h with ⟨h1, m, h2, h3⟩ | ⟨h1, h2⟩
  · exact Or.inl ⟨by rw [hC i]; exact h1, s + m, gSum_sh hC hV h2, gTimes_sh hC hV h3⟩
  · exact Or.inr ⟨by rw [hC i]; exact h1, gTimes_sh hC hV h2⟩
end SH
/-- a text that is not among the laws is written: the laws stay -/
theorem KR_write {f : Nat → Int32} {i t : Nat} {v : Int32} (h : KR f) (h31 : 0 ≤ (f 31).toInt ∧ (f 31).toInt ≤ (t : Int)) (ht : t ≤ 6) (hs : ∀ u : Nat, u < 6 → (f (33 + u)).toInt ≤ 400) (hi : i = 33 + t ∨ (40 + 400 * t ≤ i ∧ i < 2840) ∨ 2840 + 400 * t ≤ i) : KR (upd f i v) := by
  have e31 : upd f i v 31 = f 31 := if_neg (by omega)
  have e32 : upd f i v 32 = f 32 := if_neg (by omega)
  refine ⟨by rw [e31, e32]; exact h.1, fun u hu hu2 => ?_⟩
  rw [e31] at hu2
  have h2 := h.2 u hu hu2
  have e33 : upd f i v (33 + u) = f (33 + u) := if_neg (by omega)
  have eE : lawE (upd f i v) u = lawE f u := by unfold lawE; rw [e33]
  have hE : lawE f u ≤ 400 * u + 400 := by have := hs u hu; unfold lawE; omega
  unfold LawOk at *
  rw [eE]
  have hC : ∀ a : Nat, lawC (upd f i v) (lawE f u) (0 + a) = lawC f (lawE f u) a := by
    intro a
    rw [Nat.zero_add]
    unfold lawC
    by_cases z : a < lawE f u
    · rw [if_pos z, if_pos z, show upd f i v (40 + a) = f (40 + a) from if_neg (by omega)]
    · rw [if_neg z, if_neg z]
  have hV : ∀ a : Nat, ¬ lawC f (lawE f u) a = 0 → lawV (upd f i v) (0 + a) = lawV f a := by
    intro a ha
    have := lawC_in ha
    rw [Nat.zero_add]
    unfold lawV
    rw [show upd f i v (2840 + a) = f (2840 + a) from if_neg (by omega)]
  have h3 := gSeq_sh (s := 0) (op' := fun i' => lawC (upd f i v) (lawE f u) i' = 159) (X' := gClause (lawC (upd f i v) (lawE f u)) (lawV (upd f i v))) (fun a => c_sh hC 159 a) (fun a b => gClause_sh hC hV) h2
  rw [Nat.zero_add, Nat.zero_add] at h3
  exact h3
/-- a store to a text that is not among the laws -/
theorem ts_txt {q : dS} {i t : Nat} {v : Int32} (h : TS q) (h31 : (q.1 2 31).toInt ≤ (t : Int)) (ht : t ≤ 6) (hi : (i = 33 + t ∧ 0 ≤ v.toInt ∧ v.toInt ≤ 400) ∨ (40 + 400 * t ≤ i ∧ i < 2840) ∨ 2840 + 400 * t ≤ i) : TS (dui q 2 i v) := by
  have f31 := te_k h 31
  have e31 : klo 31 = 0 := by decide
  have hv := ti_rg v
  refine ⟨te_set h.1 (by show klo i ≤ _; unfold klo; omega) (by show _ ≤ khi i; unfold khi; omega), ?_, ?_, ?_⟩
  · rw [dui_s]
    refine KR_write h.2.1 ⟨by omega, h31⟩ ht (fun u hu => (te_2z h (by omega) (by omega)).2) (by omega)
  · rw [dui_o (by decide), dui_o (by decide)]; exact h.2.2.1
  · rw [dui_o (by decide)]; exact h.2.2.2
theorem ok_lays (q : dS) (p1 : Int32) (t n : Nat) (hT : TS q) (hp : p1.toInt = (t : Int)) (ht : t ≤ 6) (h31 : (q.1 2 31).toInt ≤ (t : Int)) (hn : (q.1 0 18).toInt = (n : Int)) (hn4 : n ≤ 400) : dOk (zX10_lays q p1) (fun Q => TS Q ∧ dFr [2] [] q Q ∧ (∀ i : Nat, i < 33 → Q.1 2 i = q.1 2 i) ∧ Q.1 2 (33 + t) = q.1 0 18 ∧ (∀ k : Nat, k < n → Q.1 2 (40 + 400 * t + k) = q.1 9 k ∧ Q.1 2 (2840 + 400 * t + k) = q.1 10 k)) := by
  unfold zX10_lays
  have t1 : Int32.toInt (33 + p1) = 33 + (t : Int) := ti_add (by decide) hp (by omega) (by omega)
  have n1 : Int32.toNatClampNeg (33 + p1) = 33 + t := by
    have := cl_eq (i := 33 + p1) (by omega)
    omega
  refine dOk_G (dg_ok (by omega) (by omega)) (dOk_L (fun q2 e2 => ?_))
  rw [n1] at e2
  have hT2 : TS q2 := by rw [e2]; exact ts_txt hT h31 ht (Or.inl ⟨rfl, by omega, by omega⟩)
  have hF2 : dFr [2] [] q q2 := by rw [e2]; exact dFr.rf.i (by decide) (by decide)
  have a2 : ∀ i : Nat, i < 33 → q2.1 2 i = q.1 2 i := fun i hi => by rw [e2, dui_n (by omega)]
  have b2 : q2.1 2 (33 + t) = q.1 0 18 := by rw [e2, dui_e]
  unfold zX10_lays_15
  refine dFix_ok (fun (a : dS × Int32 × Int32) => TS a.1 ∧ dFr [2] [] q a.1 ∧ a.2.1 = p1 ∧ (∀ i : Nat, i < 33 → a.1.1 2 i = q.1 2 i) ∧ a.1.1 2 (33 + t) = q.1 0 18 ∧ ∃ k : Nat, k ≤ n ∧ a.2.2 = nI k ∧ ∀ l : Nat, l < k → a.1.1 2 (40 + 400 * t + l) = q.1 9 l ∧ a.1.1 2 (2840 + 400 * t + l) = q.1 10 l) (fun (a : dS × Int32 × Int32) => (400 - Int32.toInt a.2.2).toNat) ?_ _ ⟨hT2, hF2, rfl, a2, b2, 0, by omega, rfl, fun l hl => by omega⟩ _ (dF_gt (by show (400 - Int32.toInt 0).toNat < 1000000000000; decide))
  intro a ha k hk
  obtain ⟨qa, x1, x2⟩ := a
  obtain ⟨hT, hF, ex, ha1, ha2, m, hm, em, hc⟩ := ha
  replace hT : TS qa := hT
  replace hF : dFr [2] [] q qa := hF
  replace ex : x1 = p1 := ex
  replace em : x2 = nI m := em
  replace ha1 : ∀ i : Nat, i < 33 → qa.1 2 i = q.1 2 i := ha1
  replace ha2 : qa.1 2 (33 + t) = q.1 0 18 := ha2
  replace hc : ∀ l : Nat, l < m → qa.1 2 (40 + 400 * t + l) = q.1 9 l ∧ qa.1 2 (2840 + 400 * t + l) = q.1 10 l := hc
  subst ex em
  have w18 : qa.1 0 18 = q.1 0 18 := hF.2 18 (by decide)
  have w9 : qa.1 9 = q.1 9 := hF.1 9 (by decide) (by decide)
  have w10 : qa.1 10 = q.1 10 := hF.1 10 (by decide) (by decide)
  have w31 : (qa.1 2 31).toInt ≤ (t : Int) := by rw [ha1 31 (by decide)]; exact h31
  have tm : Int32.toInt (nI m) = (m : Int) := nI_toInt (by omega)
  show dOk (zX10_lays_15b (fun q x1 x2 => k (q, x1, x2)) qa x1 (nI m)) _
  unfold zX10_lays_15b
  refine dOk_le (A := (n : Int)) (B := (m : Int)) (by rw [w18]; exact hn) tm (fun c => ?_) (fun c => ?_)
  · have e : m = n := by omega
    subst e
    exact dOk_some ⟨hT, hF, ha1, ha2, hc⟩
  have nm : Int32.toNatClampNeg (nI m) = m := nI_clamp (by omega)
  have t2 : Int32.toInt (400 * x1) = 400 * (t : Int) := ti_mul (by decide) hp (by omega) (by omega)
  have t3 : Int32.toInt (40 + 400 * x1) = 40 + 400 * (t : Int) := ti_add (by decide) t2 (by omega) (by omega)
  have t4 : Int32.toInt (40 + 400 * x1 + nI m) = 40 + 400 * (t : Int) + m := ti_add t3 tm (by omega) (by omega)
  have t5 : Int32.toInt (2840 + 400 * x1) = 2840 + 400 * (t : Int) := ti_add (by decide) t2 (by omega) (by omega)
  have t6 : Int32.toInt (2840 + 400 * x1 + nI m) = 2840 + 400 * (t : Int) + m := ti_add t5 tm (by omega) (by omega)
  have n4 : Int32.toNatClampNeg (40 + 400 * x1 + nI m) = 40 + 400 * t + m := by
    have := cl_eq (i := 40 + 400 * x1 + nI m) (by omega)
    omega
  have n6 : Int32.toNatClampNeg (2840 + 400 * x1 + nI m) = 2840 + 400 * t + m := by
    have := cl_eq (i := 2840 + 400 * x1 + nI m) (by omega)
    omega
  refine dOk_G (dg_ok (by omega) (by omega)) (dOk_L (fun v2 ev2 => dOk_G (dg_ok (by omega) (by omega)) (dOk_L (fun q4 e4 => dOk_G (dg_ok (by omega) (by omega)) (dOk_L (fun v6 ev6 => dOk_G (dg_ok (by omega) (by omega)) (dOk_L (fun q8 e8 => ?_))))))))
  rw [n4] at e4
  rw [n6] at e8
  rw [nm] at ev2 ev6
  have w4 : q4.1 10 = q.1 10 := by rw [e4, dui_o (by decide)]; exact w10
  have hT4 : TS q4 := by rw [e4]; exact ts_txt hT w31 ht (Or.inr (Or.inl ⟨by omega, by omega⟩))
  have w431 : (q4.1 2 31).toInt ≤ (t : Int) := by rw [e4, dui_n (by omega)]; exact w31
  have hT8 : TS q8 := by rw [e8]; exact ts_txt hT4 w431 ht (Or.inr (Or.inr (by omega)))
  have rd : ∀ i : Nat, ¬ i = 40 + 400 * t + m → ¬ i = 2840 + 400 * t + m → q8.1 2 i = qa.1 2 i := by
    intro i h1 h2
    rw [e8, dui_n h2, e4, dui_n h1]
  have tm1 : Int32.toInt (nI m + 1) = (m : Int) + 1 := ti_add tm (by decide) (by omega) (by omega)
  refine hk (q8, x1, nI m + 1) ⟨hT8, ?_, rfl, ?_, ?_, m + 1, by omega, nI_1 m, ?_⟩ ?_
  · show dFr [2] [] q q8
    rw [e8]; refine dFr.i ?_ (by decide) (by decide)
    rw [e4]; exact hF.i (by decide) (by decide)
  · show ∀ i : Nat, i < 33 → q8.1 2 i = q.1 2 i
    intro i hi
    rw [rd i (by omega) (by omega)]; exact ha1 i hi
  · show q8.1 2 (33 + t) = q.1 0 18
    rw [rd (33 + t) (by omega) (by omega)]; exact ha2
  · show ∀ l : Nat, l < m + 1 → q8.1 2 (40 + 400 * t + l) = q.1 9 l ∧ q8.1 2 (2840 + 400 * t + l) = q.1 10 l
    intro l hl
    rcases Nat.lt_or_ge l m with z | z
    · rw [rd (40 + 400 * t + l) (by omega) (by omega), rd (2840 + 400 * t + l) (by omega) (by omega)]
      exact hc l z
    · have : l = m := by omega
      subst this
      constructor
      · rw [e8, dui_n (by omega), e4, dui_e, ev2, w9]
      · rw [e8, dui_e, ev6, w4]
  · show (400 - Int32.toInt (nI m + 1)).toNat < (400 - Int32.toInt (nI m)).toNat
    omega
