/-! reading: what the class's code says -/
def XG (q : dK) : Prop := TC q ∧ ¬ Int32.toInt (q.1 24 0) = 0 ∧ ¬ Int32.toInt (q.1 24 3) = 0
theorem XG.s {S : List Nat} {F : List (Nat × Nat)} {q o : dK} (h : XG q) (hT : TC o) (hF : cFr S F q o) (h1 : 24 ∉ S) (h2 : (24, 0) ∉ F) (h3 : (24, 3) ∉ F) : XG o := ⟨hT, by rw [hF.1 24 0 h1 h2]; exact h.2.1, by rw [hF.1 24 3 h1 h3]; exact h.2.2⟩
/-- at a token, the code as long as a -/
def XS (B : Nat → Int) (n T : Nat) (ps es : Nat → Nat) (oo : Int) (q : dK) (t a : Nat) (dd l : Int) : Prop := XG q ∧ SC B n oo q ∧ CQ B n T ps es q t dd l ∧ Int32.toInt (q.1 25 7) = (a : Int) ∧ 0 ≤ dd ∧ dd ≤ 8
/-- behind a piece that began at token t, where the code was as long as a -/
def XE (B : Nat → Int) (n T : Nat) (ps es : Nat → Nat) (cs vs : Nat → Int) (oo W : Int) (k kk : Nat) (m : Int) (X : Nat → Prop) (t a : Nat) (dd : Int) (q o : dK) : Prop := (∃ f : Int, CF o f) ∨ ∃ (u b : Nat) (l : Int) (f : VF), XS B n T ps es oo o u b dd l ∧ t < u ∧ a < b ∧ b + t ≤ u + a ∧ (∀ i : Nat, i < a → o.1 31 i = q.1 31 i) ∧ Sp oo cs vs k t u f ∧ Cd (o.1 31) W a b (Int.toNat (17 + m - 2 * dd)) kk f ∧ X u
theorem em_tb : ∀ x : Nat, x < 32 → ∀ y : Nat, y < 32 → ∀ o : Nat, o < 13 → ((((Int32.ofNat (32 * x + y)) <<< ((4 : Int32) &&& 31) : Int32) ||| Int32.ofNat o) &&& 15 : Int32) = Int32.ofNat o ∧ ((((Int32.ofNat (32 * x + y)) <<< ((4 : Int32) &&& 31) : Int32) ||| Int32.ofNat o) >>> ((4 : Int32) &&& 31) : Int32) = Int32.ofNat (32 * x + y) := by decide +kernel
theorem i32_of {x : Int32} {k : Nat} (h : Int32.toInt x = (k : Int)) (hk : k < 2147483648) : x = Int32.ofNat k := by
  apply Int32.toInt_inj.mp
  rw [h]
  exact (nI_toInt (n := k) (by omega)).symm
theorem em_w (p1 p2 : Int32) (h1 : 0 ≤ Int32.toInt p1 ∧ Int32.toInt p1 ≤ 12) (h2 : 0 ≤ Int32.toInt p2 ∧ Int32.toInt p2 ≤ 1000) : (((p2 <<< ((4 : Int32) &&& 31) : Int32) ||| p1) &&& 15 : Int32) = p1 ∧ (((p2 <<< ((4 : Int32) &&& 31) : Int32) ||| p1) >>> ((4 : Int32) &&& 31) : Int32) = p2 := by
  obtain ⟨k, hk, e1⟩ : ∃ k : Nat, k < 13 ∧ p1 = Int32.ofNat k := by
    have n1 := cl_eq (i := p1) h1.1
    exact ⟨Int32.toNatClampNeg p1, by omega, i32_of (by omega) (by omega)⟩
  obtain ⟨x, y, hx, hy, e2⟩ : ∃ x y : Nat, x < 32 ∧ y < 32 ∧ p2 = Int32.ofNat (32 * x + y) := by
    have n2 := cl_eq (i := p2) h2.1
    exact ⟨Int32.toNatClampNeg p2 / 32, Int32.toNatClampNeg p2 % 32, by omega, by omega, i32_of (by omega) (by omega)⟩
  subst e1 e2
  exact em_tb x hx y hy k hk
section X4
variable {B : Nat → Int} {n T : Nat} {ps es : Nat → Nat} {cs vs : Nat → Int} {oo W : Int}
theorem XE.up {k k2 kk : Nat} {m m2 : Int} {X X2 : Nat → Prop} {t a : Nat} {dd : Int} {q o : dK} (h : XE B n T ps es cs vs oo W k kk m X t a dd q o) (hm : m ≤ m2) (hs : ∀ (u : Nat) (f : VF), X u → Sp oo cs vs k t u f → Sp oo cs vs k2 t u f ∧ X2 u) : XE B n T ps es cs vs oo W k2 kk m2 X2 t a dd q o := by
  rcases h with h | ⟨u, b, l, f, h1, h2, h3, h4, h5, h6, h7, h8⟩
  · exact Or.inl h
  · exact Or.inr ⟨u, b, l, f, h1, h2, h3, h4, h5, (hs u f h8 h6).1, h7.up (by omega), (hs u f h8 h6).2⟩
theorem tk_Tn (hK : TKS B n T ps es cs vs) : T ≤ n := by
  rcases Nat.eq_zero_or_pos T with h | h
  · omega
  · have := tk_pos hK (T - 1) (by omega)
    omega
/-- as many turns as there are bytes: then the text is at its end -/
theorem x_last (hK : TKS B n T ps es cs vs) {q : dK} {u b : Nat} {dd l : Int} (h : XS B n T ps es oo q u b dd l) {x1 : Int32} (hx : 0 ≤ Int32.toInt x1 ∧ Int32.toInt x1 ≤ (u : Int)) (c : Int32.toInt (q.1 24 1) ≤ Int32.toInt x1) : cs u = 0 := by
  have h1 := h.2.1.2.1
  have h2 := h.2.2.1.2.1
  have h3 := tk_Tn hK
  have e : u = T := by omega
  rw [e]; exact hK.2.2.2.2.2.1
theorem x_step (hK : TKS B n T ps es cs vs) (q : dK) {t a : Nat} {dd l : Int} (h : XS B n T ps es oo q t a dd l) (ht : t < T) : dAll (zX4_step_s24 q) (fun o => XS B n T ps es oo o (t + 1) a dd l ∧ ∀ i : Nat, o.1 31 i = q.1 31 i) := by
  obtain ⟨h1, h2, h3, h4, h6, h7⟩ := h
  refine dA_mono (dA_and (c_step hK q h2 h3 ht) (dA_of (ok_X4_step_s24 q h1.1 h1.2.1))) (fun o w => ?_)
  obtain ⟨⟨w1, w2⟩, w3, w4⟩ := w
  exact ⟨⟨h1.s w3 w4 (by decide) (by decide) (by decide), w1, w2, by rw [w4.1 25 7 (by decide) (by decide)]; exact h4, h6, h7⟩, fun i => congrFun (w4.row 31 (by decide) (by decide)) i⟩
theorem x_emit (q : dK) (p1 p2 : Int32) {t a : Nat} {dd l : Int} (h : XS B n T ps es oo q t a dd l) (ha : a < 400) (h1 : 0 ≤ Int32.toInt p1 ∧ Int32.toInt p1 ≤ 12) (h2 : 0 ≤ Int32.toInt p2 ∧ Int32.toInt p2 ≤ 1000) : dAll (zX7_emit_s25 q p1 p2) (fun o => XS B n T ps es oo o t (a + 1) dd l ∧ cdW (o.1 31) a p1 p2 ∧ ∀ i : Nat, ¬ i = a → o.1 31 i = q.1 31 i) := by
  obtain ⟨g1, g2, g3, g4, g6, g7⟩ := h
  have d1 : Int32.toInt 1 = 1 := by decide
  have d400 : Int32.toInt 400 = 400 := by decide
  have hx : dAll (zX7_emit_s25 q p1 p2) (fun o => Int32.toInt (o.1 25 7) = (a : Int) + 1 ∧ cdW (o.1 31) a p1 p2 ∧ ∀ i : Nat, ¬ i = a → o.1 31 i = q.1 31 i) := by
    unfold zX7_emit_s25 zX7_emit_s25_36
    have n7 := cl_eq (i := q.1 25 7) (by omega)
    have e7 : Int32.toNatClampNeg (q.1 25 7) = a := by omega
    refine dA_le (fun c => by omega) (fun _ => dA_G (fun _ => dA_L (fun q2 e2 => dA_L (fun q3 e3 => dA_some ⟨?_, ?_, fun i hi => ?_⟩))))
    · rw [e3, cui_e, e2, cui_o (by decide)]; exact ti_add g4 d1 (by omega) (by omega)
    · unfold cdW
      rw [e3, cui_o (by decide), e2, e7, cui_e]; exact em_w p1 p2 h1 h2
    · rw [e3, cui_o (by decide), e2, e7, cui_n hi]
  refine dA_mono (dA_and hx (dA_and (c_emit q p1 p2) (dA_of (ok_X7_emit_s25 q p1 p2 g1.1 h1 ⟨h2.1, by omega⟩)))) (fun o w => ?_)
  obtain ⟨⟨w1, w2, w3⟩, w4, w5, w6⟩ := w
  exact ⟨⟨g1.s w5 w6 (by decide) (by decide) (by decide), g2.s w4, g3.s w4, by rw [w1]; omega, g6, g7⟩, w2, w3⟩
theorem x_leap (q : dK) (p1 p2 : Int32) {t a b : Nat} {dd l : Int} (h : XS B n T ps es oo q t a dd l) (ha : a ≤ 400) (hb : Int32.toInt p2 = (b : Int)) (hba : b < a) (h1 : 0 ≤ Int32.toInt p1 ∧ Int32.toInt p1 ≤ 12) : dAll (zX7_leapHere_s25 q p1 p2) (fun o => XS B n T ps es oo o t a dd l ∧ (∃ x : Int32, cdW (o.1 31) b p1 x ∧ Int32.toInt x = (a : Int)) ∧ ∀ i : Nat, ¬ i = b → o.1 31 i = q.1 31 i) := by
  obtain ⟨g1, g2, g3, g4, g6, g7⟩ := h
  have d0 : Int32.toInt 0 = 0 := by decide
  have hx : dAll (zX7_leapHere_s25 q p1 p2) (fun o => (∃ x : Int32, cdW (o.1 31) b p1 x ∧ Int32.toInt x = (a : Int)) ∧ ∀ i : Nat, ¬ i = b → o.1 31 i = q.1 31 i) := by
    unfold zX7_leapHere_s25 zX7_leapHere_s25_26
    have n7 := cl_eq (i := p2) (by omega)
    have e7 : Int32.toNatClampNeg p2 = b := by omega
    refine dA_lt (fun c => by omega) (fun _ => dA_le (fun c => by omega) (fun _ => dA_G (fun _ => dA_L (fun q2 e2 => dA_some ⟨⟨q.1 25 7, ?_, g4⟩, fun i hi => ?_⟩))))
    · unfold cdW
      rw [e2, e7, cui_e]; exact em_w p1 (q.1 25 7) h1 ⟨by omega, by omega⟩
    · rw [e2, e7, cui_n hi]
  refine dA_mono (dA_and hx (dA_and (c_leap q p1 p2) (dA_of (ok_X7_leapHere_s25 q p1 p2 g1.1 h1)))) (fun o w => ?_)
  obtain ⟨⟨w1, w2⟩, w4, w5, w6⟩ := w
  exact ⟨⟨g1.s w5 w6 (by decide) (by decide) (by decide), g2.s w4, g3.s w4, by rw [w6.1 25 7 (by decide) (by decide)]; exact g4, g6, g7⟩, w1, w2⟩
theorem x_set8 (q : dK) {t a : Nat} {dd l : Int} (h : XS B n T ps es oo q t a dd l) (c : Int32.toInt (q.1 24 8) < 50) : XS B n T ps es oo (cui q 24 8 (q.1 24 8 + 1 : Int32)) t a dd (Int32.toInt (q.1 24 8 + 1 : Int32)) := by
  obtain ⟨g1, g2, g3, g4, g6, g7⟩ := h
  have d1 : Int32.toInt 1 = 1 := by decide
  have r8 := rg_24_8 g1.1
  have t8 : Int32.toInt (q.1 24 8 + 1 : Int32) = Int32.toInt (q.1 24 8) + 1 := ti_add rfl d1 (by omega) (by omega)
  have k8 := c_set8 q (q.1 24 8 + 1 : Int32) g2 g3
  exact ⟨⟨st_24_8 g1.1 (by omega) (by omega), by rw [cui_n (by decide)]; exact g1.2.1, by rw [cui_n (by decide)]; exact g1.2.2⟩, k8.1, k8.2, by rw [cui_o (by decide)]; exact g4, g6, g7⟩
theorem x_set9 (q : dK) (v : Int32) {t a : Nat} {dd l : Int} (h : XS B n T ps es oo q t a dd l) (c0 : 0 ≤ Int32.toInt v) (c8 : Int32.toInt v ≤ 8) : XS B n T ps es oo (cui q 24 9 v) t a (Int32.toInt v) l := by
  obtain ⟨g1, g2, g3, g4, g6, g7⟩ := h
  have k9 := c_set9 q v g2 g3
  exact ⟨⟨st_24_9 g1.1 c0 c8, by rw [cui_n (by decide)]; exact g1.2.1, by rw [cui_n (by decide)]; exact g1.2.2⟩, k9.1, k9.2, by rw [cui_o (by decide)]; exact g4, c0, c8⟩
theorem x_open (hK : TKS B n T ps es cs vs) (q : dK) {t a : Nat} {dd l : Int} (h : XS B n T ps es oo q t a dd l) (ht : t < T) : dAll (zX4_openBracket_s24 q) (fun o => (Int32.toInt o.1 = 0 ∧ ∃ f : Int, CF o.2 f) ∨ (Int32.toInt o.1 = 1 ∧ dd < 8 ∧ XS B n T ps es oo o.2 (t + 1) a (dd + 1) l ∧ ∀ i : Nat, o.2.1 31 i = q.1 31 i)) := by
  have d0 : Int32.toInt 0 = 0 := by decide
  have d1 : Int32.toInt 1 = 1 := by decide
  have d8 : Int32.toInt 8 = 8 := by decide
  have e9 : Int32.toInt (q.1 24 9) = dd := h.2.2.1.2.2.2.2.2.2.2
  have hd := h.2.2.2.2
  unfold zX4_openBracket_s24
  refine dA_lt (fun c => dA_L (fun q1 e1 => ?_)) (fun c => dA_V (c_fail q h.2.2.1) (fun o w => dA_some (Or.inl ⟨d0, _, w⟩)))
  have t9 : Int32.toInt (q.1 24 9 + 1 : Int32) = dd + 1 := ti_add e9 d1 (by omega) (by omega)
  have k := x_set9 q (q.1 24 9 + 1 : Int32) h (by omega) (by omega)
  rw [t9, ← e1] at k
  refine dA_V (x_step hK q1 k ht) (fun o w => dA_some (Or.inr ⟨d1, by omega, w.1, fun i => ?_⟩))
  show o.1 31 i = q.1 31 i
  rw [w.2 i, e1, cui_o (by decide)]
theorem x_exp (hK : TKS B n T ps es cs vs) (q : dK) (p1 : Int32) {t a : Nat} {dd l : Int} (h : XS B n T ps es oo q t a dd l) (hc : tkC (Int32.toInt p1) = 3) (h0 : 0 ≤ Int32.toInt p1) : dAll (zX4_expectSign_s24 q p1) (fun o => (∃ f : Int, CF o f) ∨ (cs t = 100 + Int32.toInt p1 ∧ XS B n T ps es oo o (t + 1) a dd l ∧ ∀ i : Nat, o.1 31 i = q.1 31 i)) := by
  have d0 : Int32.toInt 0 = 0 := by decide
  unfold zX4_expectSign_s24 zX4_expectSign_s24_19
  refine dA_B (c_sign hK q p1 h.2.1 h.2.2.1 hc h0) (fun r1 q3 z => ?_)
  obtain ⟨z1, z2⟩ := z
  replace z1 : q3 = q := z1
  replace z2 : (Int32.toInt r1 = 1 ∧ cs t = 100 + Int32.toInt p1) ∨ (Int32.toInt r1 = 0 ∧ ¬ cs t = 100 + Int32.toInt p1) := z2
  subst z1
  refine dA_eq (fun _ _ => dA_V (c_fail q3 h.2.2.1) (fun o w => dA_some (Or.inl ⟨_, w⟩))) (fun _ c => ?_)
  rcases z2 with z2 | z2
  · have ht : t < T := cs_lt hK h.2.2.1.2.1 (by omega)
    exact dA_V (x_step hK q3 h ht) (fun o w => dA_some (Or.inr ⟨z2.2, w.1, w.2⟩))
  · exact absurd (z2.1.trans d0.symm) c
/-- a leaf's word of code -/
theorem x_leaf {q o : dK} {t u a : Nat} {dd l : Int} {op x : Int32} {f : VF} (h : XS B n T ps es oo o u (a + 1) dd l) (ht : t < u) (hf : ∀ i : Nat, i < a → o.1 31 i = q.1 31 i) (hs : Sp oo cs vs 0 t u f) (hc : cdW (o.1 31) a op x) (hop : (op = 0 ∧ f = vK (Int32.toInt x)) ∨ (op = 1 ∧ 0 ≤ Int32.toInt x ∧ Int32.toInt x < W ∧ f = vW (Int32.toNatClampNeg x))) : XE B n T ps es cs vs oo W 0 0 0 exT t a dd q o := by
  have hd := h.2.2.2.2
  refine Or.inr ⟨u, a + 1, l, f, h, ht, by omega, by omega, hf, hs, ?_⟩
  rcases hop with ⟨e, ef⟩ | ⟨e, h0, h9, ef⟩
  · subst e ef
    exact ⟨Cd.num (by omega) hc, trivial⟩
  · subst e ef
    exact ⟨Cd.wrd (by omega) hc h0 h9, trivial⟩
/-- a place's number, behind "at", "head" -/
theorem x_place (hK : TKS B n T ps es cs vs) (q : dK) (y0 : Int32) {t a x : Nat} {dd l : Int} (h : XS B n T ps es oo q t a dd l) (ha : a < t) (hy : Int32.toInt y0 = (x : Int)) (hx : x ≤ 11) : dAll (zX4_readPlace_s24 q y0) (fun o => (∃ f : Int, CF o f) ∨ ∃ (j : Nat) (y : Int32), cs t = 50 ∧ j < 6 ∧ vs t = (j : Int) ∧ XS B n T ps es oo o (t + 1) (a + 1) dd l ∧ cdW (o.1 31) a 1 y ∧ Int32.toInt y = ((x + j : Nat) : Int) ∧ ∀ i : Nat, i < a → o.1 31 i = q.1 31 i) := by
  have d2' : Int32.toInt 2 = 2 := by decide
  have d6 : Int32.toInt 6 = 6 := by decide
  have d1 : Int32.toInt 1 = 1 := by decide
  obtain ⟨k1, k2, k3⟩ := tk_num hK h.2.2.1
  have h17 : dAll (zX4_readPlace_s24_17 q) (fun o => (∃ f : Int, CF o f) ∨ ∃ (j : Nat) (y : Int32), cs t = 50 ∧ j < 6 ∧ vs t = (j : Int) ∧ XS B n T ps es oo o (t + 1) (a + 1) dd l ∧ cdW (o.1 31) a 1 y ∧ Int32.toInt y = ((x + j : Nat) : Int) ∧ ∀ i : Nat, i < a → o.1 31 i = q.1 31 i) := by
    unfold zX4_readPlace_s24_17
    exact dA_V (c_fail q h.2.2.1) (fun o w => dA_some (Or.inl ⟨_, w⟩))
  unfold zX4_readPlace_s24
  refine dA_eq (fun _ c => dA_lt (fun c2 => dA_G (fun _ => ?_)) (fun _ => h17)) (fun _ _ => h17)
  have c50 : cs t = 50 := k1.mp (by omega)
  obtain ⟨j1, j2, j3, j4⟩ := k3 c50
  have v5 : vs t ≤ 5 := (j2 5 (by decide)).mp (by omega)
  have e7 : Int32.toInt (q.1 24 7) = vs t := j3 (by omega)
  have ty : Int32.toInt (y0 + (q.1 24 7)) = (x : Int) + vs t := ti_add hy e7 (by omega) (by omega)
  have hT := hK.2.1
  refine dA_V (x_emit q 1 (y0 + (q.1 24 7)) h (by omega) (by omega) (by omega)) (fun q4 w => ?_)
  refine dA_V (x_step hK q4 w.1 j1) (fun o w2 => dA_some (Or.inr ⟨(vs t).toNat, y0 + (q.1 24 7), c50, by omega, by omega, w2.1, ?_, by omega, fun i hi => ?_⟩))
  · have e : o.1 31 a = q4.1 31 a := w2.2 a
    unfold cdW
    rw [e]; exact w.2.1
  · rw [w2.2 i]; exact w.2.2 i (by omega)
theorem x_part (hK : TKS B n T ps es cs vs) (hW : (oo = 0 ∧ W = 9) ∨ (oo = 1 ∧ W = 17)) {kS : dK → Option dK} (hk : ∀ (q : dK) (t a : Nat) (dd l : Int), XS B n T ps es oo q t a dd l → a < t → dAll (kS q) (XE B n T ps es cs vs oo W 2 0 2 (ex2 cs) t a dd q)) (hf : ∀ (f : Int) (q : dK), CF q f → dAll (kS q) (fun o => CF o f)) (q : dK) {t a : Nat} {dd l : Int} (h : XS B n T ps es oo q t a dd l) (ha : a < t) : dAll (zX4_readPart_s24 kS q) (XE B n T ps es cs vs oo W 0 0 0 exT t a dd q) := by
  have d0 : Int32.toInt 0 = 0 := by decide
  have d1 : Int32.toInt 1 = 1 := by decide
  have dm : Int32.toInt (-1) = -1 := by decide
  have d2' : Int32.toInt 2 = 2 := by decide
  have d5 : Int32.toInt 5 = 5 := by decide
  have d11 : Int32.toInt 11 = 11 := by decide
  have d50 : Int32.toInt 50 = 50 := by decide
  have d1000 : Int32.toInt 1000 = 1000 := by decide
  have hT4 := hK.2.1
  have hfl : ∀ o f, CF o f → XE B n T ps es cs vs oo W 0 0 0 exT t a dd q o := fun o f w => Or.inl ⟨f, w⟩
  -- a fault here
  have h98 : ∀ q3 : dK, XS B n T ps es oo q3 t a dd l → dAll (zX4_readPart_s24_98 kS q3) (XE B n T ps es cs vs oo W 0 0 0 exT t a dd q) := by
    intro q3 g
    unfold zX4_readPart_s24_98
    exact dA_V (c_fail q3 g.2.2.1) (fun o w => dA_some (hfl o _ w))
  -- a number
  have h89n : ∀ (x1 x2 : Int32), cs t = 50 → vs t ≤ 1000 → ¬ x2 = 0 → dAll (zX4_readPart_s24_89 kS q x1 x2) (XE B n T ps es cs vs oo W 0 0 0 exT t a dd q) := by
    intro x1 x2 c50 c1000 cx
    obtain ⟨k1, k2, k3⟩ := tk_num hK h.2.2.1
    obtain ⟨j1, j2, j3, j4⟩ := k3 c50
    have e7 : Int32.toInt (q.1 24 7) = vs t := j3 c1000
    unfold zX4_readPart_s24_89
    refine dA_lt (fun c => dA_L (fun q1 e1 => ?_)) (fun _ => h98 q h)
    have g1 := x_set8 q h (by omega)
    rw [← e1] at g1
    refine dA_V (x_step hK q1 g1 j1) (fun q4 w => dA_if (fun c => absurd c cx) (fun _ => dA_G (fun _ => ?_)))
    have e17 : q1.1 24 7 = q.1 24 7 := by rw [e1]; exact cui_n (by decide)
    refine dA_V (x_emit q4 0 (q1.1 24 7) w.1 (by have := g1.2.2.1.2.1; omega) (by omega) (by rw [e17]; omega)) (fun q8 w8 => ?_)
    unfold zX4_readPart_s24_177
    refine dA_some (x_leaf w8.1 (by omega) (fun i hi => ?_) (Sp.num c50 j4 c1000) w8.2.1 (Or.inl ⟨rfl, by rw [e17, e7]⟩))
    rw [w8.2.2 i (by omega), w.2 i, e1, cui_o (by decide)]
  -- a word
  have h89w : ∀ (x1 x2 : Int32) (j : Nat), x2 = 0 → Int32.toInt x1 = (j : Int) → ((oo = 0 ∧ j < 9 ∧ cs t = ((wcd_3 j : Nat) : Int)) ∨ (oo = 1 ∧ j < 5 ∧ cs t = ((wcd_2 j : Nat) : Int)) ∨ (oo = 1 ∧ ((cs t = 21 ∧ j = 5) ∨ (cs t = 15 ∧ j = 6)))) → t < T → dAll (zX4_readPart_s24_89 kS q x1 x2) (XE B n T ps es cs vs oo W 0 0 0 exT t a dd q) := by
    intro x1 x2 j cx hj hc htT
    have hj9 : j < 9 := by omega
    have nj := cl_eq (i := x1) (by omega)
    have ej : Int32.toNatClampNeg x1 = j := by omega
    unfold zX4_readPart_s24_89
    refine dA_lt (fun c => dA_L (fun q1 e1 => ?_)) (fun _ => h98 q h)
    have g1 := x_set8 q h (by omega)
    rw [← e1] at g1
    refine dA_V (x_step hK q1 g1 htT) (fun q4 w => dA_if (fun _ => ?_) (fun c => absurd cx c))
    have f4 : ∀ i : Nat, q4.1 31 i = q.1 31 i := fun i => by rw [w.2 i, e1, cui_o (by decide)]
    have e2 : Int32.toInt (q4.1 24 2) = oo := w.1.2.1.2.2
    have h168 : (oo = 0 ∧ j < 9 ∧ cs t = ((wcd_3 j : Nat) : Int)) ∨ (oo = 1 ∧ j < 5 ∧ cs t = ((wcd_2 j : Nat) : Int)) → dAll (zX4_readPart_s24_168 kS q4 x1) (XE B n T ps es cs vs oo W 0 0 0 exT t a dd q) := by
      intro hc
      unfold zX4_readPart_s24_168 zX4_readPart_s24_177
      refine dA_G (fun _ => dA_V (x_emit q4 1 x1 w.1 (by have := h.2.2.1.2.1; omega) (by omega) (by omega)) (fun q8 w8 => dA_some ?_))
      have hs : Sp oo cs vs 0 t (t + 1) (vW j) := by
        rcases hc with hc | hc
        · exact Sp.wl hc.1 hc.2.1 hc.2.2
        · exact Sp.wo hc.1 hc.2.1 hc.2.2
      exact x_leaf w8.1 (by omega) (fun i hi => by rw [w8.2.2 i (by omega)]; exact f4 i) hs w8.2.1 (Or.inr ⟨rfl, by omega, by omega, by rw [ej]⟩)
    have h162 : ∀ (y0 : Int32) (x : Nat), oo = 1 → Int32.toInt y0 = (x : Int) → ((cs t = 21 ∧ x = 5) ∨ (cs t = 15 ∧ x = 11)) → dAll (zX4_readPart_s24_162 kS q4 y0) (XE B n T ps es cs vs oo W 0 0 0 exT t a dd q) := by
      intro y0 x ho hy hc
      unfold zX4_readPart_s24_162 zX4_readPart_s24_177
      refine dA_V (x_place hK q4 y0 w.1 (by omega) hy (by omega)) (fun o z => dA_some ?_)
      rcases z with z | ⟨j2, y, z1, z2, z3, z4, z5, z6, z7⟩
      · exact Or.inl z
      · have ny := cl_eq (i := y) (by omega)
        exact x_leaf z4 (by omega) (fun i hi => by rw [z7 i hi]; exact f4 i) (Sp.wp ho hc z1 z3 z2) z5 (Or.inr ⟨rfl, by omega, by omega, by rw [show Int32.toNatClampNeg y = x + j2 by omega]⟩)
    refine dA_eq (fun _ c2 => h168 ?_) (fun _ c2 => dA_lt (fun c5 => h168 ?_) (fun c5 => dA_eq (fun _ c6 => h162 5 5 ?_ d5 ?_) (fun _ c6 => h162 11 11 ?_ d11 ?_)))
    · rcases hc with hc | hc | hc
      · exact Or.inl hc
      · omega
      · omega
    · rcases hc with hc | hc | hc
      · exact Or.inl hc
      · exact Or.inr hc
      · omega
    · omega
    · omega
    · omega
    · omega
  -- which of both
  have h79 : ∀ (x1 y0 : Int32), (Int32.toInt x1 = -1 ∨ ∃ j : Nat, Int32.toInt x1 = (j : Int) ∧ t < T ∧ ¬ cs t = 50 ∧ ((oo = 0 ∧ j < 9 ∧ cs t = ((wcd_3 j : Nat) : Int)) ∨ (oo = 1 ∧ j < 5 ∧ cs t = ((wcd_2 j : Nat) : Int)) ∨ (oo = 1 ∧ ((cs t = 21 ∧ j = 5) ∨ (cs t = 15 ∧ j = 6))))) → (y0 = 0 ∨ (¬ y0 = 0 ∧ cs t = 50 ∧ vs t ≤ 1000)) → dAll (zX4_readPart_s24_79 kS q x1 y0) (XE B n T ps es cs vs oo W 0 0 0 exT t a dd q) := by
    intro x1 y0 h1 h2
    unfold zX4_readPart_s24_79
    refine dA_eq (fun _ c => dA_if (fun _ => h98 q h) (fun c2 => ?_)) (fun _ c => ?_)
    · rcases h2 with h2 | h2
      · exact absurd h2 c2
      · exact h89n x1 y0 h2.2.1 h2.2.2 h2.1
    · rcases h1 with h1 | ⟨j, e1, e2, e3, e4⟩
      · omega
      · rcases h2 with h2 | h2
        · exact h89w x1 y0 j h2 e1 e4 e2
        · exact absurd h2.2.1 e3
  have hnum : ∀ (r4 : Int32), (Int32.toInt r4 = -1 ∨ ∃ j : Nat, Int32.toInt r4 = (j : Int) ∧ t < T ∧ ¬ cs t = 50 ∧ ((oo = 0 ∧ j < 9 ∧ cs t = ((wcd_3 j : Nat) : Int)) ∨ (oo = 1 ∧ j < 5 ∧ cs t = ((wcd_2 j : Nat) : Int)) ∨ (oo = 1 ∧ ((cs t = 21 ∧ j = 5) ∨ (cs t = 15 ∧ j = 6))))) → dAll (if (q.1 24 4) = 2 then if 1000 < (q.1 24 7) then zX4_readPart_s24_78 kS q r4 else zX4_readPart_s24_79 kS q r4 1 else zX4_readPart_s24_78 kS q r4) (XE B n T ps es cs vs oo W 0 0 0 exT t a dd q) := by
    intro r4 hr
    unfold zX4_readPart_s24_78
    obtain ⟨k1, k2, k3⟩ := tk_num hK h.2.2.1
    refine dA_eq (fun _ c => dA_lt (fun _ => h79 r4 0 hr (Or.inl rfl)) (fun c2 => h79 r4 1 hr (Or.inr ⟨by decide, ?_, ?_⟩))) (fun _ _ => h79 r4 0 hr (Or.inl rfl))
    · exact k1.mp (by omega)
    · exact ((k3 (k1.mp (by omega))).2.1 1000 (by decide)).mp (by omega)
  unfold zX4_readPart_s24
  refine dA_B (c_sign hK q 91 h.2.1 h.2.2.1 (by decide) (by decide)) (fun r1 q3 z => ?_)
  obtain ⟨z1, z2⟩ := z
  replace z1 : q3 = q := z1
  replace z2 : (Int32.toInt r1 = 1 ∧ cs t = 100 + Int32.toInt 91) ∨ (Int32.toInt r1 = 0 ∧ ¬ cs t = 100 + Int32.toInt 91) := z2
  rw [show Int32.toInt 91 = 91 by decide] at z2
  subst z1
  have e2 := h.2.1.2.2
  refine dA_eq (fun _ _ => dA_eq (fun _ c2 => ?_) (fun _ c2 => ?_)) (fun _ c1 => ?_)
  · -- a law's words
    have o0 : oo = 0 := by omega
    unfold zX4_readPart_s24_52
    refine dA_B (c_win3 hK q3 h.2.1 h.2.2.1) (fun r4 q6 w => ?_)
    obtain ⟨w1, w2⟩ := w
    replace w1 : q6 = q3 := w1
    replace w2 : (∃ j : Nat, j < 9 ∧ Int32.toInt r4 = (j : Int) ∧ cs t = ((wcd_3 j : Nat) : Int)) ∨ (Int32.toInt r4 = -1 ∧ ∀ j : Nat, j < 9 → ¬ cs t = ((wcd_3 j : Nat) : Int)) := w2
    subst w1
    refine hnum r4 ?_
    rcases w2 with ⟨j, j1, j2, j3⟩ | ⟨w2, w3⟩
    · have hj : ∀ j : Nat, j < 9 → 8 ≤ wcd_3 j ∧ wcd_3 j ≤ 16 := by decide
      have := hj j j1
      exact Or.inr ⟨j, j2, cs_lt hK h.2.2.1.2.1 (by omega), by omega, Or.inl ⟨o0, j1, j3⟩⟩
    · exact Or.inl w2
  · -- orders' words
    have o1 : oo = 1 := by
      rcases hW with y | y
      · omega
      · exact y.1
    refine dA_B (c_win2 hK q3 h.2.1 h.2.2.1) (fun r4 q6 w => ?_)
    obtain ⟨w1, w2⟩ := w
    replace w1 : q6 = q3 := w1
    replace w2 : (∃ j : Nat, j < 7 ∧ Int32.toInt r4 = (j : Int) ∧ cs t = ((wcd_2 j : Nat) : Int)) ∨ (Int32.toInt r4 = -1 ∧ ∀ j : Nat, j < 7 → ¬ cs t = ((wcd_2 j : Nat) : Int)) := w2
    subst w1
    refine hnum r4 ?_
    rcases w2 with ⟨j, j1, j2, j3⟩ | ⟨w2, w3⟩
    · have hj : ∀ j : Nat, j < 7 → (j < 5 ∧ 16 ≤ wcd_2 j ∧ wcd_2 j ≤ 20) ∨ (j = 5 ∧ wcd_2 j = 21) ∨ (j = 6 ∧ wcd_2 j = 15) := by decide
      have := hj j j1
      refine Or.inr ⟨j, j2, cs_lt hK h.2.2.1.2.1 (by omega), by omega, ?_⟩
      rcases this with y | y | y
      · exact Or.inr (Or.inl ⟨o1, y.1, j3⟩)
      · exact Or.inr (Or.inr ⟨o1, Or.inl ⟨by omega, y.1⟩⟩)
      · exact Or.inr (Or.inr ⟨o1, Or.inr ⟨by omega, y.1⟩⟩)
    · exact Or.inl w2
  · -- a bracket
    have c191 : cs t = 191 := by
      rcases z2 with z2 | z2
      · omega
      · exact absurd (z2.1.trans d0.symm) c1
    have ht : t < T := cs_lt hK h.2.2.1.2.1 (by omega)
    refine dA_B (x_open hK q3 h ht) (fun r7 q9 w => ?_)
    replace w : (Int32.toInt r7 = 0 ∧ ∃ f : Int, CF q9 f) ∨ (Int32.toInt r7 = 1 ∧ dd < 8 ∧ XS B n T ps es oo q9 (t + 1) a (dd + 1) l ∧ ∀ i : Nat, q9.1 31 i = q3.1 31 i) := w
    unfold zX4_readPart_s24_36
    refine dA_eq (fun _ c => ?_) (fun _ c => ?_)
    · rcases w with w | w
      · obtain ⟨f, hf9⟩ := w.2
        exact dA_some (hfl q9 f hf9)
      · omega
    · rcases w with w | ⟨w1, w2, w3, w4⟩
      · exact absurd (w.1.trans d0.symm) c
      · refine dA_V (hk q9 (t + 1) a (dd + 1) l w3 (by omega)) (fun q12 R => dA_L (fun q13 e13 => ?_))
        rcases R with ⟨f, hcf⟩ | ⟨u, b, l2, f, g1, g2, g3, g4, g5, g6, g7, g8⟩
        · refine dA_V (f_exp q13 93 (f := f) (by rw [e13]; exact c_setF q12 24 9 _ hcf (by decide))) (fun o w => dA_some (hfl o f w))
        · have e9 : Int32.toInt (q12.1 24 9) = dd + 1 := g1.2.2.1.2.2.2.2.2.2.2
          have hd := h.2.2.2.2
          have t9 : Int32.toInt (q12.1 24 9 - 1 : Int32) = dd := by rw [ti_sub e9 d1 (by omega) (by omega)]; omega
          have k := x_set9 q12 (q12.1 24 9 - 1 : Int32) g1 (by omega) (by omega)
          rw [t9, ← e13] at k
          refine dA_V (x_exp hK q13 93 k (by decide) (by decide)) (fun o w => dA_some ?_)
          rcases w with w | ⟨v1, v2, v3⟩
          · exact Or.inl w
          · have fo : ∀ i : Nat, o.1 31 i = q12.1 31 i := fun i => by rw [v3 i, e13, cui_o (by decide)]
            rw [show Int32.toInt 93 = 93 by decide] at v1
            exact Or.inr ⟨u + 1, b, l2, f, v2, by omega, g3, by omega, fun i hi => by rw [fo i, g5 i hi, w4 i], Sp.brk c191 g6 v1, (g7.fr (fun i _ _ => fo i)).up (by omega), trivial⟩
theorem x_term (hK : TKS B n T ps es cs vs) (hW : (oo = 0 ∧ W = 9) ∨ (oo = 1 ∧ W = 17)) {kS : dK → Option dK} (hk : ∀ (q : dK) (t a : Nat) (dd l : Int), XS B n T ps es oo q t a dd l → a < t → dAll (kS q) (XE B n T ps es cs vs oo W 2 0 2 (ex2 cs) t a dd q)) (hf : ∀ (f : Int) (q : dK), CF q f → dAll (kS q) (fun o => CF o f)) (q : dK) {t a : Nat} {dd l : Int} (h : XS B n T ps es oo q t a dd l) (ha : a < t) : dAll (zX4_readTerm_s24 kS q) (XE B n T ps es cs vs oo W 1 0 1 (ex1 cs) t a dd q) := by
  have d0 : Int32.toInt 0 = 0 := by decide
  have dm : Int32.toInt (-1) = -1 := by decide
  have dfo : Int32.toInt 4 = 4 := by decide
  have hT4 := hK.2.1
  unfold zX4_readTerm_s24
  refine dA_V (x_part hK hW hk hf q h ha) (fun q3 R => ?_)
  unfold zX4_readTerm_s24_6
  refine dA_fix (fun (p : dK × Int32) => XE B n T ps es cs vs oo W 1 0 1 (fun u => 0 ≤ Int32.toInt p.2 ∧ Int32.toInt p.2 ≤ (u : Int)) t a dd q p.1) ?_ dF _ (R.up (by decide) (fun u f hX z => ⟨z.up0, by show 0 ≤ Int32.toInt 0; omega, by show Int32.toInt 0 ≤ (u : Int); omega⟩))
  intro k6 hk6 p hp
  obtain ⟨qa, x1⟩ := p
  replace hp : XE B n T ps es cs vs oo W 1 0 1 (fun u => 0 ≤ Int32.toInt x1 ∧ Int32.toInt x1 ≤ (u : Int)) t a dd q qa := hp
  show dAll (zX4_readTerm_s24_6b kS (fun q x1 => k6 (q, x1)) qa x1) _
  unfold zX4_readTerm_s24_6b zX4_readTerm_s24_59
  rcases hp with ⟨f, hcf⟩ | ⟨u, b, l2, f, g1, g2, g3, g4, g5, g6, g7, g8⟩
  · exact dA_if (fun _ => dA_some (Or.inl ⟨f, hcf⟩)) (fun _ => dA_if (fun c10 => absurd c10 (i32_ne hcf.1 hcf.2)) (fun _ => dA_some (Or.inl ⟨f, hcf⟩)))
  · have hd := g1.2.2.2.2
    have huT := g1.2.2.1.2.1
    replace g8 : 0 ≤ Int32.toInt x1 ∧ Int32.toInt x1 ≤ (u : Int) := g8
    have t1 : Int32.toInt (x1 + 1) = Int32.toInt x1 + 1 := ti_add rfl (by decide) (by omega) (by omega)
    refine dA_le (fun c => ?_) (fun _ => dA_if (fun c10 => ?_) (fun c => absurd g1.2.2.1.1 c))
    · have e0 := x_last hK g1 g8 c
      exact dA_some (Or.inr ⟨u, b, l2, f, g1, g2, g3, g4, g5, g6, g7, by unfold ex1; omega⟩)
    refine dA_B (c_sgi4 hK qa 4 g1.2.1 g1.2.2.1 (by decide)) (fun r1 q5 w => ?_)
    obtain ⟨w1, w2⟩ := w
    replace w1 : q5 = qa := w1
    replace w2 : (∃ j : Nat, j < 3 ∧ Int32.toInt r1 = Int32.toInt 4 + (j : Int) ∧ cs u = 100 + ([42, 47, 37] : List Int).getD j 0) ∨ (Int32.toInt r1 = -1 ∧ ∀ j : Nat, j < 3 → ¬ cs u = 100 + ([42, 47, 37] : List Int).getD j 0) := w2
    subst w1
    rcases w2 with ⟨j, j1, j2, j3⟩ | ⟨w2, w3⟩
    rotate_left
    · refine dA_eq (fun _ _ => dA_some (Or.inr ⟨u, b, l2, f, g1, g2, g3, g4, g5, g6, g7, ⟨w3 0 (by decide), w3 1 (by decide), w3 2 (by decide)⟩⟩)) (fun _ c => absurd (w2.trans dm.symm) c)
    · refine dA_eq (fun _ c => by omega) (fun _ c => ?_)
      have hop : (cs u = 142 ∧ Int32.toInt r1 = 4) ∨ (cs u = 147 ∧ Int32.toInt r1 = 5) ∨ (cs u = 137 ∧ Int32.toInt r1 = 6) := by
        have e : j = 0 ∨ j = 1 ∨ j = 2 := by omega
        rcases e with e | e | e <;> subst e
        · exact Or.inl ⟨j3, by omega⟩
        · exact Or.inr (Or.inl ⟨j3, by omega⟩)
        · exact Or.inr (Or.inr (⟨j3, by omega⟩))
      have hu0 : ¬ cs u = 0 := by omega
      have hu : u < T := cs_lt hK huT hu0
      refine dA_V (x_step hK q5 g1 hu) (fun q6 v => ?_)
      refine dA_V (x_part hK hW hk hf q6 v.1 (by omega)) (fun q9 R2 => dA_G (fun _ => ?_))
      rcases R2 with ⟨f2, hcf⟩ | ⟨w, c1, l3, f2, k1, k2, k3, k4, k5, k6', k7, k8⟩
      · exact dA_V (c_emit q9 _ _) (fun q13 cc => hk6 (q13, x1 + 1) (Or.inl ⟨f2, hcf.s cc⟩))
      · have hwT := k1.2.2.1.2.1
        refine dA_V (x_emit q9 r1 0 k1 (by omega) (by omega) (by decide)) (fun q13 cc => hk6 (q13, x1 + 1) (Or.inr ⟨w, c1 + 1, l3, vB (Int32.toInt r1) f f2, cc.1, by omega, by omega, by omega, fun i hi => ?_, g6.mul hop k6', ?_, by show 0 ≤ Int32.toInt (x1 + 1); omega, by show Int32.toInt (x1 + 1) ≤ (w : Int); omega⟩))
        · rw [cc.2.2 i (by omega), k5 i (by omega), v.2 i]; exact g5 i hi
        · refine Cd.join (g7.fr (fun i i1 i2 => ?_)) (k7.fr (fun i i1 i2 => ?_)) (by omega) (Or.inl ⟨rfl, by omega, by omega⟩) cc.2.1
          · rw [cc.2.2 i (by omega), k5 i (by omega), v.2 i]
          · rw [cc.2.2 i (by omega)]
theorem x_sum (hK : TKS B n T ps es cs vs) (hW : (oo = 0 ∧ W = 9) ∨ (oo = 1 ∧ W = 17)) {kS : dK → Option dK} (hk : ∀ (q : dK) (t a : Nat) (dd l : Int), XS B n T ps es oo q t a dd l → a < t → dAll (kS q) (XE B n T ps es cs vs oo W 2 0 2 (ex2 cs) t a dd q)) (hf : ∀ (f : Int) (q : dK), CF q f → dAll (kS q) (fun o => CF o f)) (q : dK) {t a : Nat} {dd l : Int} (h : XS B n T ps es oo q t a dd l) (ha : a < t) : dAll (zX4_readSum_s24_o kS q) (XE B n T ps es cs vs oo W 2 0 2 (ex2 cs) t a dd q) := by
  have d0 : Int32.toInt 0 = 0 := by decide
  have dm : Int32.toInt (-1) = -1 := by decide
  have dfo : Int32.toInt 2 = 2 := by decide
  have hT4 := hK.2.1
  unfold zX4_readSum_s24_o
  refine dA_V (x_term hK hW hk hf q h ha) (fun q3 R => ?_)
  unfold zX4_readSum_s24_6
  refine dA_fix (fun (p : dK × Int32) => XE B n T ps es cs vs oo W 2 0 2 (fun u => 0 ≤ Int32.toInt p.2 ∧ Int32.toInt p.2 ≤ (u : Int)) t a dd q p.1) ?_ dF _ (R.up (by decide) (fun u f hX z => ⟨z.up1 hX, by show 0 ≤ Int32.toInt 0; omega, by show Int32.toInt 0 ≤ (u : Int); omega⟩))
  intro k6 hk6 p hp
  obtain ⟨qa, x1⟩ := p
  replace hp : XE B n T ps es cs vs oo W 2 0 2 (fun u => 0 ≤ Int32.toInt x1 ∧ Int32.toInt x1 ≤ (u : Int)) t a dd q qa := hp
  show dAll (zX4_readSum_s24_6b kS (fun q x1 => k6 (q, x1)) qa x1) _
  unfold zX4_readSum_s24_6b zX4_readSum_s24_59
  rcases hp with ⟨f, hcf⟩ | ⟨u, b, l2, f, g1, g2, g3, g4, g5, g6, g7, g8⟩
  · exact dA_if (fun _ => dA_some (Or.inl ⟨f, hcf⟩)) (fun _ => dA_if (fun c10 => absurd c10 (i32_ne hcf.1 hcf.2)) (fun _ => dA_some (Or.inl ⟨f, hcf⟩)))
  · have hd := g1.2.2.2.2
    have huT := g1.2.2.1.2.1
    replace g8 : 0 ≤ Int32.toInt x1 ∧ Int32.toInt x1 ≤ (u : Int) := g8
    have t1 : Int32.toInt (x1 + 1) = Int32.toInt x1 + 1 := ti_add rfl (by decide) (by omega) (by omega)
    refine dA_le (fun c => ?_) (fun _ => dA_if (fun c10 => ?_) (fun c => absurd g1.2.2.1.1 c))
    · have e0 := x_last hK g1 g8 c
      exact dA_some (Or.inr ⟨u, b, l2, f, g1, g2, g3, g4, g5, g6, g7, by unfold ex2; omega⟩)
    refine dA_B (c_sgi5 hK qa 2 g1.2.1 g1.2.2.1 (by decide)) (fun r1 q5 w => ?_)
    obtain ⟨w1, w2⟩ := w
    replace w1 : q5 = qa := w1
    replace w2 : (∃ j : Nat, j < 2 ∧ Int32.toInt r1 = Int32.toInt 2 + (j : Int) ∧ cs u = 100 + ([43, 45] : List Int).getD j 0) ∨ (Int32.toInt r1 = -1 ∧ ∀ j : Nat, j < 2 → ¬ cs u = 100 + ([43, 45] : List Int).getD j 0) := w2
    subst w1
    rcases w2 with ⟨j, j1, j2, j3⟩ | ⟨w2, w3⟩
    rotate_left
    · refine dA_eq (fun _ _ => dA_some (Or.inr ⟨u, b, l2, f, g1, g2, g3, g4, g5, g6, g7, ⟨w3 0 (by decide), w3 1 (by decide)⟩⟩)) (fun _ c => absurd (w2.trans dm.symm) c)
    · refine dA_eq (fun _ c => by omega) (fun _ c => ?_)
      have hop : (cs u = 143 ∧ Int32.toInt r1 = 2) ∨ (cs u = 145 ∧ Int32.toInt r1 = 3) := by
        have e : j = 0 ∨ j = 1 := by omega
        rcases e with e | e <;> subst e
        · exact Or.inl ⟨j3, by omega⟩
        · exact Or.inr (⟨j3, by omega⟩)
      have hu0 : ¬ cs u = 0 := by omega
      have hu : u < T := cs_lt hK huT hu0
      refine dA_V (x_step hK q5 g1 hu) (fun q6 v => ?_)
      refine dA_V (x_term hK hW hk hf q6 v.1 (by omega)) (fun q9 R2 => dA_G (fun _ => ?_))
      rcases R2 with ⟨f2, hcf⟩ | ⟨w, c1, l3, f2, k1, k2, k3, k4, k5, k6', k7, k8⟩
      · exact dA_V (c_emit q9 _ _) (fun q13 cc => hk6 (q13, x1 + 1) (Or.inl ⟨f2, hcf.s cc⟩))
      · have hwT := k1.2.2.1.2.1
        refine dA_V (x_emit q9 r1 0 k1 (by omega) (by omega) (by decide)) (fun q13 cc => hk6 (q13, x1 + 1) (Or.inr ⟨w, c1 + 1, l3, vB (Int32.toInt r1) f f2, cc.1, by omega, by omega, by omega, fun i hi => ?_, g6.add hop k6' k8, ?_, by show 0 ≤ Int32.toInt (x1 + 1); omega, by show Int32.toInt (x1 + 1) ≤ (w : Int); omega⟩))
        · rw [cc.2.2 i (by omega), k5 i (by omega), v.2 i]; exact g5 i hi
        · refine Cd.join (g7.fr (fun i i1 i2 => ?_)) (k7.fr (fun i i1 i2 => ?_)) (by omega) (Or.inl ⟨rfl, by omega, by omega⟩) cc.2.1
          · rw [cc.2.2 i (by omega), k5 i (by omega), v.2 i]
          · rw [cc.2.2 i (by omega)]
theorem x_sumN (hK : TKS B n T ps es cs vs) (hW : (oo = 0 ∧ W = 9) ∨ (oo = 1 ∧ W = 17)) : ∀ (c : Nat) (q : dK) (t a : Nat) (dd l : Int), XS B n T ps es oo q t a dd l → a < t → dAll (zX4_readSum_s24 c q) (XE B n T ps es cs vs oo W 2 0 2 (ex2 cs) t a dd q) := by
  intro c
  induction c with
  | zero => intro q t a dd l _ _ o e; cases e
  | succ c ih => intro q t a dd l h ha; exact x_sum hK hW (kS := zX4_readSum_s24 c) ih (fun f q hq => f_sumN c q hq) q h ha
theorem x_128F {kT : dK → Option dK} {f : Int} (q : dK) (x1 : Int32) (h : CF q f) : dAll (zX4_readPlain_s24_128 kT q x1) (fun o => CF o f) := by
  unfold zX4_readPlain_s24_128 zX4_readPlain_s24_142
  exact dA_if (fun _ => dA_some h) (fun _ => dA_G (fun _ => dA_V (c_emit q _ _) (fun o w => dA_some (h.s w))))
/-- behind "not"s: the word "not" if they are odd -/
theorem x_128 (hK : TKS B n T ps es cs vs) {kT : dK → Option dK} (q0 q : dK) (x1 : Int32) {t s u a b : Nat} {dd l : Int} {f : VF} (h : XS B n T ps es oo q u b dd l) (ha : a < t) (hts : t ≤ s) (hn : ∀ i : Nat, t ≤ i → i < s → cs i = 7) (hx : (x1 = 0 ∧ (s - t) % 2 = 0) ∨ (¬ x1 = 0 ∧ (s - t) % 2 = 1)) (hsu : s < u) (hab : a < b) (hbu : b + s ≤ u + a) (hfr : ∀ i : Nat, i < a → q.1 31 i = q0.1 31 i) (hs : Sp oo cs vs 3 s u f) (hc : Cd (q.1 31) W a b (Int.toNat (17 + 3 - 2 * dd)) 1 f) : dAll (zX4_readPlain_s24_128 kT q x1) (XE B n T ps es cs vs oo W 4 1 3 exT t a dd q0) := by
  have hT4 := hK.2.1
  have huT := h.2.2.1.2.1
  have hsp := Sp.nots hts hn hs
  unfold zX4_readPlain_s24_128 zX4_readPlain_s24_142
  refine dA_if (fun c => dA_some ?_) (fun c => dA_G (fun _ => dA_V (x_emit q 10 0 h (by omega) (by decide) (by decide)) (fun o w => dA_some ?_)))
  · rcases hx with hx | hx
    · have e : vM (s - t) f = f := if_pos hx.2
      rw [e] at hsp
      exact Or.inr ⟨u, b, l, f, h, by omega, hab, by omega, hfr, hsp, hc, trivial⟩
    · exact absurd c hx.1
  · rcases hx with hx | hx
    · exact absurd hx.1 c
    · have e : vM (s - t) f = vN f := if_neg (by omega)
      rw [e] at hsp
      refine Or.inr ⟨u, b + 1, l, vN f, w.1, by omega, by omega, by omega, fun i hi => by rw [w.2.2 i (by omega)]; exact hfr i hi, hsp, Cd.not (hc.fr (fun i i1 i2 => w.2.2 i (by omega))) w.2.1, trivial⟩
theorem x_41 (hK : TKS B n T ps es cs vs) (hW : (oo = 0 ∧ W = 9) ∨ (oo = 1 ∧ W = 17)) {kT : dK → Option dK} (hk : ∀ (q : dK) (t a : Nat) (dd l : Int), XS B n T ps es oo q t a dd l → a < t → dAll (kT q) (XE B n T ps es cs vs oo W 6 1 3 (ex6 cs) t a dd q)) (hf : ∀ (f : Int) (q : dK), CF q f → dAll (kT q) (fun o => CF o f)) (q0 q : dK) (x1 : Int32) {t s a : Nat} {dd l : Int} (h : XS B n T ps es oo q s a dd l) (ha : a < t) (hts : t ≤ s) (hn : ∀ i : Nat, t ≤ i → i < s → cs i = 7) (hx : (x1 = 0 ∧ (s - t) % 2 = 0) ∨ (¬ x1 = 0 ∧ (s - t) % 2 = 1)) (hfr : ∀ i : Nat, i < a → q.1 31 i = q0.1 31 i) : dAll (zX4_readPlain_s24_41 kT q x1) (XE B n T ps es cs vs oo W 4 1 3 exT t a dd q0) := by
  have d0 : Int32.toInt 0 = 0 := by decide
  have d1 : Int32.toInt 1 = 1 := by decide
  have d7 : Int32.toInt 7 = 7 := by decide
  have dm : Int32.toInt (-1) = -1 := by decide
  have hT4 := hK.2.1
  have hd := h.2.2.2.2
  have hfl : ∀ o f, CF o f → XE B n T ps es cs vs oo W 4 1 3 exT t a dd q0 o := fun o f w => Or.inl ⟨f, w⟩
  unfold zX4_readPlain_s24_41
  refine dA_B (c_sign hK q 40 h.2.1 h.2.2.1 (by decide) (by decide)) (fun r1 q3 z => ?_)
  obtain ⟨z1, z2⟩ := z
  replace z1 : q3 = q := z1
  replace z2 : (Int32.toInt r1 = 1 ∧ cs s = 100 + Int32.toInt 40) ∨ (Int32.toInt r1 = 0 ∧ ¬ cs s = 100 + Int32.toInt 40) := z2
  rw [show Int32.toInt 40 = 40 by decide] at z2
  subst z1
  refine dA_eq (fun _ _ => ?_) (fun _ c1 => ?_)
  · -- two sums
    refine dA_V (x_sumN hK hW 10 q3 s a dd l h (by omega)) (fun q6 R => ?_)
    rcases R with ⟨f, hcf⟩ | ⟨u, b, l2, f, g1, g2, g3, g4, g5, g6, g7, g8⟩
    · refine dA_B (sgi_id9 q6 7) (fun r7 q9 z => ?_)
      replace z : q9 = q6 := z
      subst z
      unfold zX4_readPlain_s24_106
      exact dA_if (fun c => absurd c (i32_ne hcf.1 hcf.2)) (fun _ => dA_V (c_failF q9 hcf) (fun o w => dA_some (hfl o f w)))
    · have huT := g1.2.2.1.2.1
      refine dA_B (c_sgi9 hK q6 7 g1.2.1 g1.2.2.1 (by decide)) (fun r7 q9 w => ?_)
      obtain ⟨w1, w2⟩ := w
      replace w1 : q9 = q6 := w1
      replace w2 : (∃ j : Nat, j < 3 ∧ Int32.toInt r7 = Int32.toInt 7 + (j : Int) ∧ cs u = 100 + ([60, 62, 61] : List Int).getD j 0) ∨ (Int32.toInt r7 = -1 ∧ ∀ j : Nat, j < 3 → ¬ cs u = 100 + ([60, 62, 61] : List Int).getD j 0) := w2
      subst w1
      unfold zX4_readPlain_s24_106
      refine dA_if (fun _ => dA_eq (fun _ _ => dA_V (c_fail q9 g1.2.2.1) (fun o w => dA_some (hfl o _ w))) (fun _ c => ?_)) (fun c => absurd g1.2.2.1.1 c)
      rcases w2 with ⟨j, j1, j2, j3⟩ | ⟨w2, -⟩
      rotate_left
      · exact absurd (w2.trans dm.symm) c
      · have hop : (cs u = 160 ∧ Int32.toInt r7 = 7) ∨ (cs u = 162 ∧ Int32.toInt r7 = 8) ∨ (cs u = 161 ∧ Int32.toInt r7 = 9) := by
          have e : j = 0 ∨ j = 1 ∨ j = 2 := by omega
          rcases e with e | e | e <;> subst e
          · exact Or.inl ⟨j3, by omega⟩
          · exact Or.inr (Or.inl ⟨j3, by omega⟩)
          · exact Or.inr (Or.inr ⟨j3, by omega⟩)
        have hu0 : ¬ cs u = 0 := by omega
        have hu : u < T := cs_lt hK huT hu0
        refine dA_V (x_step hK q9 g1 hu) (fun q12 v => ?_)
        refine dA_V (x_sumN hK hW 10 q12 (u + 1) b dd l2 v.1 (by omega)) (fun q15 R2 => dA_G (fun _ => ?_))
        rcases R2 with ⟨f2, hcf⟩ | ⟨w, c2, l3, f2, k1, k2, k3, k4, k5, k6', k7, k8⟩
        · exact dA_V (c_emit q15 _ _) (fun q19 cc => dA_mono (x_128F q19 x1 (hcf.s cc)) (fun o w => hfl o f2 w))
        · have hwT := k1.2.2.1.2.1
          refine dA_V (x_emit q15 r7 0 k1 (by omega) (by omega) (by decide)) (fun q19 cc => ?_)
          refine x_128 hK q0 q19 x1 (s := s) (f := vB (Int32.toInt r7) f f2) cc.1 ha hts hn hx (by omega) (by omega) (by omega) (fun i hi => ?_) (g6.cmp hop k6' k8) ?_
          · rw [cc.2.2 i (by omega), k5 i (by omega), v.2 i, g5 i hi]; exact hfr i hi
          · refine Cd.join ((g7.fr (fun i i1 i2 => ?_)).up (by omega)) (k7.fr (fun i i1 i2 => ?_)) (by omega) (Or.inr ⟨rfl, by omega, by omega⟩) cc.2.1
            · rw [cc.2.2 i (by omega), k5 i (by omega), v.2 i]
            · rw [cc.2.2 i (by omega)]
  · -- a bracket
    have c140 : cs s = 140 := by
      rcases z2 with z2 | z2
      · omega
      · exact absurd (z2.1.trans d0.symm) c1
    have ht : s < T := cs_lt hK h.2.2.1.2.1 (by omega)
    refine dA_B (x_open hK q3 h ht) (fun r7 q9 w => ?_)
    replace w : (Int32.toInt r7 = 0 ∧ ∃ f : Int, CF q9 f) ∨ (Int32.toInt r7 = 1 ∧ dd < 8 ∧ XS B n T ps es oo q9 (s + 1) a (dd + 1) l ∧ ∀ i : Nat, q9.1 31 i = q3.1 31 i) := w
    refine dA_eq (fun _ c => ?_) (fun _ c => ?_)
    · rcases w with w | w
      · obtain ⟨f, hf9⟩ := w.2
        exact dA_mono (x_128F q9 x1 hf9) (fun o w => hfl o f w)
      · omega
    · rcases w with w | ⟨w1, w2, w3, w4⟩
      · exact absurd (w.1.trans d0.symm) c
      · refine dA_V (hk q9 (s + 1) a (dd + 1) l w3 (by omega)) (fun q12 R => dA_L (fun q13 e13 => ?_))
        rcases R with ⟨f, hcf⟩ | ⟨u, b, l2, f, g1, g2, g3, g4, g5, g6, g7, g8⟩
        · refine dA_V (f_exp q13 41 (f := f) (by rw [e13]; exact c_setF q12 24 9 _ hcf (by decide))) (fun q29 w => dA_mono (x_128F q29 x1 w) (fun o w => hfl o f w))
        · have e9 : Int32.toInt (q12.1 24 9) = dd + 1 := g1.2.2.1.2.2.2.2.2.2.2
          have t9 : Int32.toInt (q12.1 24 9 - 1 : Int32) = dd := by rw [ti_sub e9 d1 (by omega) (by omega)]; omega
          have k := x_set9 q12 (q12.1 24 9 - 1 : Int32) g1 (by omega) (by omega)
          rw [t9, ← e13] at k
          refine dA_V (x_exp hK q13 41 k (by decide) (by decide)) (fun q29 w => ?_)
          rcases w with ⟨f2, w⟩ | ⟨v1, v2, v3⟩
          · exact dA_mono (x_128F q29 x1 w) (fun o w => hfl o f2 w)
          · have fo : ∀ i : Nat, q29.1 31 i = q12.1 31 i := fun i => by rw [v3 i, e13, cui_o (by decide)]
            rw [show Int32.toInt 41 = 41 by decide] at v1
            exact x_128 hK q0 q29 x1 (s := s) (f := f) v2 ha hts hn hx (by omega) g3 (by omega) (fun i hi => by rw [fo i, g5 i hi, w4 i]; exact hfr i hi) (Sp.par c140 g6 v1) ((g7.fr (fun i _ _ => fo i)).up (by omega))
theorem x_plain (hK : TKS B n T ps es cs vs) (hW : (oo = 0 ∧ W = 9) ∨ (oo = 1 ∧ W = 17)) {kT : dK → Option dK} (hk : ∀ (q : dK) (t a : Nat) (dd l : Int), XS B n T ps es oo q t a dd l → a < t → dAll (kT q) (XE B n T ps es cs vs oo W 6 1 3 (ex6 cs) t a dd q)) (hf : ∀ (f : Int) (q : dK), CF q f → dAll (kT q) (fun o => CF o f)) (q : dK) {t a : Nat} {dd l : Int} (h : XS B n T ps es oo q t a dd l) (ha : a < t) : dAll (zX4_readPlain_s24 kT q) (XE B n T ps es cs vs oo W 4 1 3 exT t a dd q) := by
  have d0 : Int32.toInt 0 = 0 := by decide
  unfold zX4_readPlain_s24 zX4_readPlain_s24_4
  refine dA_fix (fun (p : dK × Int32 × Int32) => ∃ s : Nat, XS B n T ps es oo p.1 s a dd l ∧ t ≤ s ∧ (∀ i : Nat, t ≤ i → i < s → cs i = 7) ∧ ((p.2.1 = 0 ∧ (s - t) % 2 = 0) ∨ (¬ p.2.1 = 0 ∧ (s - t) % 2 = 1)) ∧ ∀ i : Nat, i < a → p.1.1 31 i = q.1 31 i) ?_ dF _ ⟨t, h, Nat.le_refl _, fun i i1 i2 => by omega, Or.inl ⟨rfl, by omega⟩, fun _ _ => rfl⟩
  intro k4 hk4 p hp
  obtain ⟨qa, x1, x2⟩ := p
  obtain ⟨s, g1, g2, g3, g4, g5⟩ := hp
  replace g1 : XS B n T ps es oo qa s a dd l := g1
  replace g4 : (x1 = 0 ∧ (s - t) % 2 = 0) ∨ (¬ x1 = 0 ∧ (s - t) % 2 = 1) := g4
  replace g5 : ∀ i : Nat, i < a → qa.1 31 i = q.1 31 i := g5
  show dAll (zX4_readPlain_s24_4b kT (fun q x1 x2 => k4 (q, x1, x2)) qa x1 x2) _
  unfold zX4_readPlain_s24_4b zX4_readPlain_s24_30
  refine dA_if (fun _ => x_41 hK hW hk hf q qa x1 g1 ha g2 g3 g4 g5) (fun _ => dA_B (c_wd8 hK qa g1.2.1 g1.2.2.1) (fun r1 q3 w => ?_))
  obtain ⟨w1, w2⟩ := w
  replace w1 : q3 = qa := w1
  replace w2 : (Int32.toInt r1 = 1 ∧ cs s = 7) ∨ (Int32.toInt r1 = 0 ∧ ¬ cs s = 7) := w2
  subst w1
  refine dA_eq (fun _ _ => x_41 hK hW hk hf q q3 x1 g1 ha g2 g3 g4 g5) (fun _ c => ?_)
  rcases w2 with w2 | w2
  rotate_left
  · exact absurd (w2.1.trans d0.symm) c
  · have hs : s < T := cs_lt hK g1.2.2.1.2.1 (by omega)
    have hn : ∀ i : Nat, t ≤ i → i < s + 1 → cs i = 7 := fun i i1 i2 => by
      by_cases ci : i = s
      · rw [ci]; exact w2.2
      · exact g3 i i1 (by omega)
    refine dA_if (fun c0 => dA_V (x_step hK q3 g1 hs) (fun q4 v => hk4 (q4, 1, x2 + 1) ⟨s + 1, v.1, by omega, hn, Or.inr ⟨by show ¬ (1 : Int32) = 0; decide, ?_⟩, fun i hi => by show q4.1 31 i = _; rw [v.2 i]; exact g5 i hi⟩)) (fun c0 => dA_V (x_step hK q3 g1 hs) (fun q4 v => hk4 (q4, 0, x2 + 1) ⟨s + 1, v.1, by omega, hn, Or.inl ⟨rfl, ?_⟩, fun i hi => by show q4.1 31 i = _; rw [v.2 i]; exact g5 i hi⟩))
    · rcases g4 with g4 | g4
      · omega
      · exact absurd c0 g4.1
    · rcases g4 with g4 | g4
      · exact absurd g4.1 c0
      · omega
theorem x_both (hK : TKS B n T ps es cs vs) (hW : (oo = 0 ∧ W = 9) ∨ (oo = 1 ∧ W = 17)) {kT : dK → Option dK} (hk : ∀ (q : dK) (t a : Nat) (dd l : Int), XS B n T ps es oo q t a dd l → a < t → dAll (kT q) (XE B n T ps es cs vs oo W 6 1 3 (ex6 cs) t a dd q)) (hf : ∀ (f : Int) (q : dK), CF q f → dAll (kT q) (fun o => CF o f)) (q : dK) {t a : Nat} {dd l : Int} (h : XS B n T ps es oo q t a dd l) (ha : a < t) : dAll (zX4_readBoth_s24 kT q) (XE B n T ps es cs vs oo W 5 1 3 (ex5 cs) t a dd q) := by
  have d0 : Int32.toInt 0 = 0 := by decide
  have hT4 := hK.2.1
  unfold zX4_readBoth_s24
  refine dA_V (x_plain hK hW hk hf q h ha) (fun q3 R => ?_)
  unfold zX4_readBoth_s24_6
  refine dA_fix (fun (p : dK × Int32) => XE B n T ps es cs vs oo W 5 1 3 (fun u => 0 ≤ Int32.toInt p.2 ∧ Int32.toInt p.2 ≤ (u : Int)) t a dd q p.1) ?_ dF _ (R.up (by decide) (fun u f hX z => ⟨z.up4, by show 0 ≤ Int32.toInt 0; omega, by show Int32.toInt 0 ≤ (u : Int); omega⟩))
  intro k6 hk6 p hp
  obtain ⟨qa, x1⟩ := p
  replace hp : XE B n T ps es cs vs oo W 5 1 3 (fun u => 0 ≤ Int32.toInt x1 ∧ Int32.toInt x1 ≤ (u : Int)) t a dd q qa := hp
  show dAll (zX4_readBoth_s24_6b kT (fun q x1 => k6 (q, x1)) qa x1) _
  unfold zX4_readBoth_s24_6b zX4_readBoth_s24_73
  rcases hp with ⟨f, hcf⟩ | ⟨u, b, l2, f, g1, g2, g3, g4, g5, g6, g7, g8⟩
  · exact dA_if (fun _ => dA_some (Or.inl ⟨f, hcf⟩)) (fun _ => dA_if (fun c10 => absurd c10 (i32_ne hcf.1 hcf.2)) (fun _ => dA_some (Or.inl ⟨f, hcf⟩)))
  · have hd := g1.2.2.2.2
    have huT := g1.2.2.1.2.1
    replace g8 : 0 ≤ Int32.toInt x1 ∧ Int32.toInt x1 ≤ (u : Int) := g8
    have t1 : Int32.toInt (x1 + 1) = Int32.toInt x1 + 1 := ti_add rfl (by decide) (by omega) (by omega)
    refine dA_le (fun c => ?_) (fun _ => dA_if (fun c10 => ?_) (fun c => absurd g1.2.2.1.1 c))
    · have e0 := x_last hK g1 g8 c
      exact dA_some (Or.inr ⟨u, b, l2, f, g1, g2, g3, g4, g5, g6, g7, by unfold ex5; omega⟩)
    refine dA_B (c_wd10 hK qa g1.2.1 g1.2.2.1) (fun r1 q5 w => ?_)
    obtain ⟨w1, w2⟩ := w
    replace w1 : q5 = qa := w1
    replace w2 : (Int32.toInt r1 = 1 ∧ cs u = 6) ∨ (Int32.toInt r1 = 0 ∧ ¬ cs u = 6) := w2
    subst w1
    rcases w2 with w2 | w2
    rotate_left
    · exact dA_eq (fun _ _ => dA_some (Or.inr ⟨u, b, l2, f, g1, g2, g3, g4, g5, g6, g7, w2.2⟩)) (fun _ c => absurd (w2.1.trans d0.symm) c)
    · refine dA_eq (fun _ c => by omega) (fun _ c => dA_G (fun _ => dA_G (fun _ => ?_)))
      have hu : u < T := cs_lt hK huT (by omega)
      refine dA_V (x_emit q5 11 0 g1 (by omega) (by decide) (by decide)) (fun q8 v8 => ?_)
      refine dA_V (x_step hK q8 v8.1 hu) (fun q6 v => ?_)
      refine dA_V (x_plain hK hW hk hf q6 v.1 (by omega)) (fun q9 R2 => dA_G (fun _ => ?_))
      rcases R2 with ⟨f2, hcf⟩ | ⟨w, c1, l3, f2, k1, k2, k3, k4, k5, k6', k7, k8⟩
      · exact dA_V (c_leap q9 _ _) (fun q13 cc => hk6 (q13, x1 + 1) (Or.inl ⟨f2, hcf.s cc⟩))
      · have hwT := k1.2.2.1.2.1
        refine dA_V (x_leap q9 11 (q5.1 25 7) k1 (by omega) g1.2.2.2.1 (by omega) (by decide)) (fun q13 cc => hk6 (q13, x1 + 1) (Or.inr ⟨w, c1, l3, vL 0 f f2, cc.1, by omega, by omega, by omega, fun i hi => ?_, g6.an w2.2 k6', ?_, by show 0 ≤ Int32.toInt (x1 + 1); omega, by show Int32.toInt (x1 + 1) ≤ (w : Int); omega⟩))
        · rw [cc.2.2 i (by omega), k5 i (by omega), v.2 i, v8.2.2 i (by omega)]; exact g5 i hi
        · obtain ⟨x, hx, ex⟩ := cc.2.1
          refine Cd.leap (g7.fr (fun i i1 i2 => ?_)) (Or.inl ⟨rfl, rfl⟩) hx ex (k7.fr (fun i i1 i2 => ?_))
          · rw [cc.2.2 i (by omega), k5 i (by omega), v.2 i, v8.2.2 i (by omega)]
          · rw [cc.2.2 i (by omega)]
theorem x_test (hK : TKS B n T ps es cs vs) (hW : (oo = 0 ∧ W = 9) ∨ (oo = 1 ∧ W = 17)) {kT : dK → Option dK} (hk : ∀ (q : dK) (t a : Nat) (dd l : Int), XS B n T ps es oo q t a dd l → a < t → dAll (kT q) (XE B n T ps es cs vs oo W 6 1 3 (ex6 cs) t a dd q)) (hf : ∀ (f : Int) (q : dK), CF q f → dAll (kT q) (fun o => CF o f)) (q : dK) {t a : Nat} {dd l : Int} (h : XS B n T ps es oo q t a dd l) (ha : a < t) : dAll (zX4_readTest_s24_o kT q) (XE B n T ps es cs vs oo W 6 1 3 (ex6 cs) t a dd q) := by
  have d0 : Int32.toInt 0 = 0 := by decide
  have hT4 := hK.2.1
  unfold zX4_readTest_s24_o
  refine dA_V (x_both hK hW hk hf q h ha) (fun q3 R => ?_)
  unfold zX4_readTest_s24_6
  refine dA_fix (fun (p : dK × Int32) => XE B n T ps es cs vs oo W 6 1 3 (fun u => 0 ≤ Int32.toInt p.2 ∧ Int32.toInt p.2 ≤ (u : Int)) t a dd q p.1) ?_ dF _ (R.up (by decide) (fun u f hX z => ⟨z.up5 hX, by show 0 ≤ Int32.toInt 0; omega, by show Int32.toInt 0 ≤ (u : Int); omega⟩))
  intro k6 hk6 p hp
  obtain ⟨qa, x1⟩ := p
  replace hp : XE B n T ps es cs vs oo W 6 1 3 (fun u => 0 ≤ Int32.toInt x1 ∧ Int32.toInt x1 ≤ (u : Int)) t a dd q qa := hp
  show dAll (zX4_readTest_s24_6b kT (fun q x1 => k6 (q, x1)) qa x1) _
  unfold zX4_readTest_s24_6b zX4_readTest_s24_73
  rcases hp with ⟨f, hcf⟩ | ⟨u, b, l2, f, g1, g2, g3, g4, g5, g6, g7, g8⟩
  · exact dA_if (fun _ => dA_some (Or.inl ⟨f, hcf⟩)) (fun _ => dA_if (fun c10 => absurd c10 (i32_ne hcf.1 hcf.2)) (fun _ => dA_some (Or.inl ⟨f, hcf⟩)))
  · have hd := g1.2.2.2.2
    have huT := g1.2.2.1.2.1
    replace g8 : 0 ≤ Int32.toInt x1 ∧ Int32.toInt x1 ≤ (u : Int) := g8
    have t1 : Int32.toInt (x1 + 1) = Int32.toInt x1 + 1 := ti_add rfl (by decide) (by omega) (by omega)
    refine dA_le (fun c => ?_) (fun _ => dA_if (fun c10 => ?_) (fun c => absurd g1.2.2.1.1 c))
    · have e0 := x_last hK g1 g8 c
      exact dA_some (Or.inr ⟨u, b, l2, f, g1, g2, g3, g4, g5, g6, g7, by unfold ex6; omega⟩)
    refine dA_B (c_wd11 hK qa g1.2.1 g1.2.2.1) (fun r1 q5 w => ?_)
    obtain ⟨w1, w2⟩ := w
    replace w1 : q5 = qa := w1
    replace w2 : (Int32.toInt r1 = 1 ∧ cs u = 5) ∨ (Int32.toInt r1 = 0 ∧ ¬ cs u = 5) := w2
    subst w1
    rcases w2 with w2 | w2
    rotate_left
    · exact dA_eq (fun _ _ => dA_some (Or.inr ⟨u, b, l2, f, g1, g2, g3, g4, g5, g6, g7, w2.2⟩)) (fun _ c => absurd (w2.1.trans d0.symm) c)
    · refine dA_eq (fun _ c => by omega) (fun _ c => dA_G (fun _ => dA_G (fun _ => ?_)))
      have hu : u < T := cs_lt hK huT (by omega)
      refine dA_V (x_emit q5 12 0 g1 (by omega) (by decide) (by decide)) (fun q8 v8 => ?_)
      refine dA_V (x_step hK q8 v8.1 hu) (fun q6 v => ?_)
      refine dA_V (x_both hK hW hk hf q6 v.1 (by omega)) (fun q9 R2 => dA_G (fun _ => ?_))
      rcases R2 with ⟨f2, hcf⟩ | ⟨w, c1, l3, f2, k1, k2, k3, k4, k5, k6', k7, k8⟩
      · exact dA_V (c_leap q9 _ _) (fun q13 cc => hk6 (q13, x1 + 1) (Or.inl ⟨f2, hcf.s cc⟩))
      · have hwT := k1.2.2.1.2.1
        refine dA_V (x_leap q9 12 (q5.1 25 7) k1 (by omega) g1.2.2.2.1 (by omega) (by decide)) (fun q13 cc => hk6 (q13, x1 + 1) (Or.inr ⟨w, c1, l3, vL 1 f f2, cc.1, by omega, by omega, by omega, fun i hi => ?_, g6.orr w2.2 k6' k8, ?_, by show 0 ≤ Int32.toInt (x1 + 1); omega, by show Int32.toInt (x1 + 1) ≤ (w : Int); omega⟩))
        · rw [cc.2.2 i (by omega), k5 i (by omega), v.2 i, v8.2.2 i (by omega)]; exact g5 i hi
        · obtain ⟨x, hx, ex⟩ := cc.2.1
          refine Cd.leap (g7.fr (fun i i1 i2 => ?_)) (Or.inr ⟨rfl, rfl⟩) hx ex (k7.fr (fun i i1 i2 => ?_))
          · rw [cc.2.2 i (by omega), k5 i (by omega), v.2 i, v8.2.2 i (by omega)]
          · rw [cc.2.2 i (by omega)]
theorem x_testN (hK : TKS B n T ps es cs vs) (hW : (oo = 0 ∧ W = 9) ∨ (oo = 1 ∧ W = 17)) : ∀ (c : Nat) (q : dK) (t a : Nat) (dd l : Int), XS B n T ps es oo q t a dd l → a < t → dAll (zX4_readTest_s24 c q) (XE B n T ps es cs vs oo W 6 1 3 (ex6 cs) t a dd q) := by
  intro c
  induction c with
  | zero => intro q t a dd l _ _ o e; cases e
  | succ c ih => intro q t a dd l h ha; exact x_test hK hW (kT := zX4_readTest_s24 c) ih (fun f q hq => f_testN c q hq) q h ha
end X4

