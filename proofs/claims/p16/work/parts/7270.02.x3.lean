/-- the loop, one turn on -/
noncomputable abbrev vLp (n : Nat) (q : dK) (x1 x5 x6 x7 x8 : Int32) : Option (Int32 × dK) := zX2_valueOf_s18_l_s21_32 n q x1 x5 x6 x7 x8
theorem vLp_s (n : Nat) (q : dK) (x1 x5 x6 x7 x8 : Int32) : vLp (n + 1) q x1 x5 x6 x7 x8 = zX2_valueOf_s18_l_s21_32b (fun q x1 x5 x6 x7 x8 => vLp n q x1 x5 x6 x7 x8) q x1 x5 x6 x7 x8 := rfl
theorem vLp_0 {P : Int32 × dK → Prop} (q : dK) (x1 x5 x6 x7 x8 : Int32) : dAll (vLp 0 q x1 x5 x6 x7 x8) P := by
  intro o e
  cases e
/-- behind a fault: 0 -/
theorem vLp_f (n : Nat) (q : dK) (x1 x5 x6 x7 x8 : Int32) (h : ¬ q.1 18 1 = 0) : dAll (vLp n q x1 x5 x6 x7 x8) (fun o => o.1 = 0 ∧ o.2 = q) := by
  cases n with
  | zero => exact vLp_0 q x1 x5 x6 x7 x8
  | succ n =>
    rw [vLp_s]
    have h3 : dAll (zX2_valueOf_s18_l_s21_328 q) (fun o => o.1 = 0 ∧ o.2 = q) := by
      unfold zX2_valueOf_s18_l_s21_328 zX2_valueOf_s18_l_s21_345
      exact dA_if (fun c => absurd c h) (fun _ => dA_some ⟨rfl, rfl⟩)
    unfold zX2_valueOf_s18_l_s21_32b
    exact dA_if (fun _ => h3) (fun _ => dA_if (fun _ => h3) (fun _ => dA_if (fun c => absurd c h) (fun _ => h3)))
/-- what stays while a value is worked out above the s lowest places -/
def vFr (s : Nat) (q o : dK) : Prop := (∀ j k : Nat, ¬ (j = 19 ∧ s ≤ k) → o.1 j k = q.1 j k) ∧ o.2 = q.2
theorem vFr.rf {s : Nat} {q : dK} : vFr s q q := ⟨fun _ _ _ => rfl, rfl⟩
theorem vFr.t {s s2 : Nat} {q q1 o : dK} (h : vFr s q q1) (h2 : vFr s2 q1 o) (hs : s ≤ s2) : vFr s q o := ⟨fun j k hj => (h2.1 j k (fun z => hj ⟨z.1, by omega⟩)).trans (h.1 j k hj), h2.2.trans h.2⟩
theorem vFr.p {s : Nat} {q : dK} {k : Nat} {v : Int32} (hk : s ≤ k) : vFr s q (cui q 19 k v) := ⟨fun j i hj => cui_x (fun z => hj ⟨z.1, by omega⟩), rfl⟩
/-- one turn: a word is read, it says what it says -/
theorem vLp_w {P : Int32 × dK → Prop} (n : Nat) (q : dK) (x1 x5 x6 x7 x8 : Int32) (p e c : Nat) (hp : Int32.toInt x6 = (p : Int)) (he : Int32.toInt x7 = (e : Int)) (hc : Int32.toInt x8 = (c : Int)) (hcp : c ≤ p) (hpe : p < e) (h18 : q.1 18 1 = 0) (o a : Int32) (hw : cdW ((dTx q x1).2.2.2.2 5) p o a)
    (h : ∀ n' : Nat, n = n' + 1 → ∀ y0 : Int32, (o.toInt ≤ 1 → y0 = 0) → (10 ≤ o.toInt → y0 = 1) → (2 ≤ o.toInt → o.toInt < 10 → y0 = 2) → dAll (zX2_valueOf_s18_l_s21_98 (fun q x1 x5 x6 x7 x8 => vLp n' q x1 x5 x6 x7 x8) q x1 x5 x6 x7 x8 o a y0) P) : dAll (vLp n q x1 x5 x6 x7 x8) P := by
  have d1 : Int32.toInt 1 = 1 := by decide
  have d10 : Int32.toInt 10 = 10 := by decide
  cases n with
  | zero => exact vLp_0 q x1 x5 x6 x7 x8
  | succ n =>
    have h := h n rfl
    rw [vLp_s]
    unfold zX2_valueOf_s18_l_s21_32b
    have n6 := cl_eq (i := x6) (by omega)
    refine dA_le (fun z => by omega) (fun _ => dA_le (fun z => by omega) (fun _ => dA_if (fun _ => ?_) (fun z => absurd h18 z)))
    refine dA_G (fun _ => dA_G (fun _ => dA_G (fun _ => dA_L (fun v4 e4 => dA_G (fun _ => dA_G (fun _ => dA_G (fun _ => dA_L (fun v8 e8 => ?_))))))))
    have ep : Int32.toNatClampNeg x6 = p := by omega
    rw [ep] at e4 e8
    have w4 : (v4 &&& 15 : Int32) = o := by rw [e4]; exact hw.1
    have w8 : (v8 >>> ((4 : Int32) &&& 31) : Int32) = a := by rw [e8]; exact hw.2
    rw [w4, w8]
    refine dA_lt (fun z1 => dA_le (fun z2 => h 1 (fun z => by omega) (fun _ => rfl) (fun _ z => by omega)) (fun z2 => h 2 (fun z => by omega) (fun z => by omega) (fun _ _ => rfl))) (fun z1 => h 0 (fun _ => rfl) (fun z => by omega) (fun z _ => by omega))
theorem dTx_fr {q o : dK} (x1 : Int32) (h : o.2 = q.2) : dTx o x1 = dTx q x1 := by
  unfold dTx
  rw [h]
theorem vC_fr {s : Nat} {q o : dK} (x1 : Int32) (h : vFr s q o) : (dTx o x1).2.2.2.2 5 = (dTx q x1).2.2.2.2 5 := by rw [dTx_fr x1 h.2]
/-- the same behind a fault -/
def vFx (s : Nat) (q o : dK) : Prop := (∀ j k : Nat, ¬ (j = 19 ∧ s ≤ k) → ¬ (j = 18 ∧ k = 1) → o.1 j k = q.1 j k) ∧ o.2 = q.2 ∧ ¬ o.1 18 1 = 0
theorem vFx.of {s s2 : Nat} {q q1 o : dK} (h : vFr s q q1) (h2 : vFx s2 q1 o) (hs : s ≤ s2) : vFx s q o := ⟨fun j k hj hk => (h2.1 j k (fun z => hj ⟨z.1, by omega⟩) hk).trans (h.1 j k hj), h2.2.1.trans h.2, h2.2.2⟩
section
variable {P : Int32 × dK → Prop} (n : Nat) (q : dK) (x1 x5 x6 x7 x8 : Int32) (o a : Int32) (s : Nat)
theorem v98 (y0 : Int32) (h5 : Int32.toInt x5 = (s : Int)) (hy : y0.toInt ≤ (s : Int)) (h64 : s < 64) (h1 : o = 1 → a.toInt < 9) (h : dAll (zX2_valueOf_s18_l_s21_139 (fun q x1 x5 x6 x7 x8 => vLp n q x1 x5 x6 x7 x8) q x1 x5 (x6 + 1) x7 x8 o a) P) : dAll (zX2_valueOf_s18_l_s21_98 (fun q x1 x5 x6 x7 x8 => vLp n q x1 x5 x6 x7 x8) q x1 x5 x6 x7 x8 o a y0) P := by
  have d64 : Int32.toInt 64 = 64 := by decide
  have d9 : Int32.toInt 9 = 9 := by decide
  unfold zX2_valueOf_s18_l_s21_98
  exact dA_lt (fun z => by omega) (fun _ => dA_le (fun z => by omega) (fun _ => dA_if (fun z => dA_lt (fun _ => h) (fun z2 => by have := h1 z; omega)) (fun _ => h)))
theorem v_push (v : Int32) (h5 : Int32.toInt x5 = (s : Int)) (h64 : s < 64) (h : dAll (vLp n (cui q 19 s v) x1 (x5 + 1) x6 x7 (x8 + 1)) P) : dAll (zX2_valueOf_s18_l_s21_171 (fun q x1 x5 x6 x7 x8 => vLp n q x1 x5 x6 x7 x8) q x1 x5 x6 x7 x8 v x5) P := by
  have n5 := cl_eq (i := x5) (by omega)
  unfold zX2_valueOf_s18_l_s21_171 zX2_valueOf_s18_l_s21_322
  refine dA_G (fun _ => dA_L (fun q2 e2 => ?_))
  rw [show Int32.toNatClampNeg x5 = s by omega] at e2
  rw [e2]; exact h
theorem v_num (h5 : Int32.toInt x5 = (s : Int)) (h64 : s < 64) (h : dAll (vLp n (cui q 19 s a) x1 (x5 + 1) x6 x7 (x8 + 1)) P) : dAll (zX2_valueOf_s18_l_s21_139 (fun q x1 x5 x6 x7 x8 => vLp n q x1 x5 x6 x7 x8) q x1 x5 x6 x7 x8 0 a) P := by
  unfold zX2_valueOf_s18_l_s21_139 zX2_valueOf_s18_l_s21_150
  exact dA_if (fun _ => dA_if (fun _ => v_push n q x1 x5 x6 x7 x8 s a h5 h64 h) (fun z => absurd rfl z)) (fun z => absurd rfl z)
theorem v_at (h5 : Int32.toInt x5 = (s : Int)) (h64 : s < 64) (h : dAll (vLp n (cui q 19 s (q.1 21 (Int32.toNatClampNeg a))) x1 (x5 + 1) x6 x7 (x8 + 1)) P) : dAll (zX2_valueOf_s18_l_s21_139 (fun q x1 x5 x6 x7 x8 => vLp n q x1 x5 x6 x7 x8) q x1 x5 x6 x7 x8 1 a) P := by
  unfold zX2_valueOf_s18_l_s21_139 zX2_valueOf_s18_l_s21_150
  refine dA_if (fun z => absurd z (by decide)) (fun _ => dA_if (fun _ => dA_if (fun z => absurd z (by decide)) (fun _ => dA_G (fun _ => dA_L (fun v2 e2 => ?_)))) (fun z => absurd rfl z))
  rw [← e2] at h
  exact v_push n q x1 x5 x6 x7 x8 s v2 h5 h64 h
theorem v_nt (h5 : Int32.toInt x5 = ((s + 1 : Nat) : Int)) (h64 : s < 64) (h : dAll (vLp n (cui q 19 s (1 - q.1 19 s : Int32)) x1 x5 x6 x7 (x8 + 1)) P) : dAll (zX2_valueOf_s18_l_s21_139 (fun q x1 x5 x6 x7 x8 => vLp n q x1 x5 x6 x7 x8) q x1 x5 x6 x7 x8 10 a) P := by
  have d1 : Int32.toInt 1 = 1 := by decide
  have t5 : Int32.toInt (x5 - 1 : Int32) = (s : Int) := by rw [ti_sub h5 d1 (by omega) (by omega)]; omega
  have n5 := cl_eq (i := (x5 - 1 : Int32)) (by omega)
  have en : Int32.toNatClampNeg (x5 - 1 : Int32) = s := by omega
  unfold zX2_valueOf_s18_l_s21_139 zX2_valueOf_s18_l_s21_322
  refine dA_if (fun z => absurd z (by decide)) (fun _ => dA_if (fun z => absurd z (by decide)) (fun _ => dA_if (fun _ => dA_G (fun _ => dA_L (fun v11 e11 => dA_G (fun _ => dA_L (fun q13 e13 => ?_))))) (fun z => absurd rfl z)))
  rw [en] at e11 e13
  rw [e13, e11]; exact h
/-- and (11), or (12): on with the other side, or a leap -/
theorem v_leap (hb : o = 11 ∨ o = 12) (h5 : Int32.toInt x5 = ((s + 1 : Nat) : Int)) (h64 : s < 64)
    (hj : (o = 11 → q.1 19 s = 0) → (o = 12 → q.1 19 s = 1) → dAll (vLp n q x1 x5 a x7 (x8 + 1)) P)
    (hn : (o = 11 → ¬ q.1 19 s = 0) → (o = 12 → ¬ q.1 19 s = 1) → dAll (vLp n q x1 (x5 - 1 : Int32) x6 x7 (x8 + 1)) P) : dAll (zX2_valueOf_s18_l_s21_139 (fun q x1 x5 x6 x7 x8 => vLp n q x1 x5 x6 x7 x8) q x1 x5 x6 x7 x8 o a) P := by
  have d1 : Int32.toInt 1 = 1 := by decide
  have t5 : Int32.toInt (x5 - 1 : Int32) = (s : Int) := by rw [ti_sub h5 d1 (by omega) (by omega)]; omega
  have n5 := cl_eq (i := (x5 - 1 : Int32)) (by omega)
  have en : Int32.toNatClampNeg (x5 - 1 : Int32) = s := by omega
  have h251 : ∀ y : Int32, ((y = 0 → (o = 11 → ¬ q.1 19 s = 0) ∧ (o = 12 → ¬ q.1 19 s = 1)) ∧ (¬ y = 0 → (o = 11 → q.1 19 s = 0) ∧ (o = 12 → q.1 19 s = 1))) → dAll (zX2_valueOf_s18_l_s21_251 (fun q x1 x5 x6 x7 x8 => vLp n q x1 x5 x6 x7 x8) q x1 x5 x6 x7 x8 a y) P := by
    intro y hy
    unfold zX2_valueOf_s18_l_s21_251 zX2_valueOf_s18_l_s21_265 zX2_valueOf_s18_l_s21_281 zX2_valueOf_s18_l_s21_322
    refine dA_if (fun z => dA_if (fun _ => hn (hy.1 z).1 (hy.1 z).2) (fun z2 => absurd z z2)) (fun z => dA_if (fun z2 => absurd z2 z) (fun _ => hj (hy.2 z).1 (hy.2 z).2))
  unfold zX2_valueOf_s18_l_s21_139 zX2_valueOf_s18_l_s21_222 zX2_valueOf_s18_l_s21_243
  rcases hb with hb | hb
  · subst hb
    refine dA_if (fun z => absurd z (by decide)) (fun _ => dA_if (fun z => absurd z (by decide)) (fun _ => dA_if (fun z => absurd z (by decide)) (fun _ => dA_if (fun _ => dA_G (fun _ => dA_L (fun v2 e2 => ?_))) (fun z => absurd rfl z))))
    rw [en] at e2
    refine dA_if (fun z => absurd z (by decide)) (fun _ => dA_if (fun z => h251 1 ⟨fun z2 => absurd z2 (by decide), fun _ => ⟨fun _ => by rw [← e2]; exact z, fun z2 => absurd z2 (by decide)⟩⟩) (fun z => h251 0 ⟨fun _ => ⟨fun _ => by rw [← e2]; exact z, fun z2 => absurd z2 (by decide)⟩, fun z2 => absurd rfl z2⟩))
  · subst hb
    refine dA_if (fun z => absurd z (by decide)) (fun _ => dA_if (fun z => absurd z (by decide)) (fun _ => dA_if (fun z => absurd z (by decide)) (fun _ => dA_if (fun z => absurd z (by decide)) (fun _ => dA_if (fun _ => dA_G (fun _ => dA_L (fun v2 e2 => ?_))) (fun z => absurd rfl z)))))
    rw [en] at e2
    refine dA_if (fun _ => dA_if (fun z => h251 1 ⟨fun z2 => absurd z2 (by decide), fun _ => ⟨fun z2 => absurd z2 (by decide), fun _ => by rw [← e2]; exact z⟩⟩) (fun z => h251 0 ⟨fun _ => ⟨fun z2 => absurd z2 (by decide), fun _ => by rw [← e2]; exact z⟩, fun z2 => absurd rfl z2⟩)) (fun z => absurd rfl z)
end
/-- what the class's stack does with an expression's code -/
theorem vLp_T {P : Int32 × dK → Prop} (A : Nat → Int) (x1 x7 : Int32) (e : Nat) (he : Int32.toInt x7 = (e : Int)) (he4 : e ≤ 400) (C : Nat → Int32) {a0 b0 d0' k0 : Nat} {f0 : VF} (hcd : Cd C 9 a0 b0 d0' k0 f0) : ∀ (q : dK) (n : Nat) (x5 x6 x8 : Int32) (s c : Nat), (dTx q x1).2.2.2.2 5 = C → Int32.toInt x5 = (s : Int) → Int32.toInt x6 = (a0 : Int) → Int32.toInt x8 = (c : Int) → c ≤ a0 → b0 ≤ e → s + d0' ≤ 63 → q.1 18 1 = 0 → (∀ k : Nat, k < 9 → Int32.toInt (q.1 21 k) = A k) →
    (∀ v : Int, f0 A = some v → ∀ (n' : Nat) (q' : dK) (y5 y6 y8 : Int32) (c' : Nat), vFr s q q' → Int32.toInt y5 = ((s + 1 : Nat) : Int) → Int32.toInt y6 = (b0 : Int) → Int32.toInt y8 = (c' : Int) → c' ≤ b0 → Int32.toInt (q'.1 19 s) = v → dAll (vLp n' q' x1 y5 y6 x7 y8) P) →
    (f0 A = none → ∀ (n' : Nat) (q' : dK) (y5 y6 y8 : Int32), vFx s q q' → dAll (vLp n' q' x1 y5 y6 x7 y8) P) → dAll (vLp n q x1 x5 x6 x7 x8) P := by
  have d1 : Int32.toInt 1 = 1 := by decide
  have d0 : Int32.toInt 0 = 0 := by decide
  have dm : Int32.toInt (-1) = -1 := by decide
  have d2' : Int32.toInt 2 = 2 := by decide
  have d10 : Int32.toInt 10 = 10 := by decide
  have d11 : Int32.toInt 11 = 11 := by decide
  have d12 : Int32.toInt 12 = 12 := by decide
  refine (hcd (fun a0 b0 d0' k0 f0 => Cd C 9 a0 b0 d0' k0 f0 ∧ ∀ (q : dK) (n : Nat) (x5 x6 x8 : Int32) (s c : Nat), (dTx q x1).2.2.2.2 5 = C → Int32.toInt x5 = (s : Int) → Int32.toInt x6 = (a0 : Int) → Int32.toInt x8 = (c : Int) → c ≤ a0 → b0 ≤ e → s + d0' ≤ 63 → q.1 18 1 = 0 → (∀ k : Nat, k < 9 → Int32.toInt (q.1 21 k) = A k) →
    (∀ v : Int, f0 A = some v → ∀ (n' : Nat) (q' : dK) (y5 y6 y8 : Int32) (c' : Nat), vFr s q q' → Int32.toInt y5 = ((s + 1 : Nat) : Int) → Int32.toInt y6 = (b0 : Int) → Int32.toInt y8 = (c' : Int) → c' ≤ b0 → Int32.toInt (q'.1 19 s) = v → dAll (vLp n' q' x1 y5 y6 x7 y8) P) →
    (f0 A = none → ∀ (n' : Nat) (q' : dK) (y5 y6 y8 : Int32), vFx s q q' → dAll (vLp n' q' x1 y5 y6 x7 y8) P) → dAll (vLp n q x1 x5 x6 x7 x8) P) ⟨?_, ?_, ?_, ?_, ?_⟩).2
  · -- a number
    intro p d a hd hC
    refine ⟨Cd.num hd hC, fun q n x5 x6 x8 s c eC h5 h6 h8 hcp hpe hs h18 hA hk hf => ?_⟩
    refine vLp_w n q x1 x5 x6 x7 x8 p e c h6 he h8 hcp (by omega) h18 0 a (by rw [eC]; exact hC) (fun n' _ y0 z0 _ _ => ?_)
    refine v98 n' q x1 x5 x6 x7 x8 0 a s y0 h5 (by rw [z0 (by omega)]; omega) (by omega) (fun z => absurd z (by decide)) ?_
    refine v_num n' q x1 x5 (x6 + 1) x7 x8 a s h5 (by omega) ?_
    exact hk a.toInt rfl n' _ _ _ _ (c + 1) (vFr.p (Nat.le_refl _)) (by rw [ti_add h5 d1 (by omega) (by omega)]; omega) (by rw [ti_add h6 d1 (by omega) (by omega)]; omega) (by rw [ti_add h8 d1 (by omega) (by omega)]; omega) (by omega) (by rw [cui_e])
  · -- a word
    intro p d a hd hC ha0 ha9
    refine ⟨Cd.wrd hd hC ha0 ha9, fun q n x5 x6 x8 s c eC h5 h6 h8 hcp hpe hs h18 hA hk hf => ?_⟩
    have na := cl_eq (i := a) ha0
    refine vLp_w n q x1 x5 x6 x7 x8 p e c h6 he h8 hcp (by omega) h18 1 a (by rw [eC]; exact hC) (fun n' _ y0 z0 _ _ => ?_)
    refine v98 n' q x1 x5 x6 x7 x8 1 a s y0 h5 (by rw [z0 (by omega)]; omega) (by omega) (fun _ => ha9) ?_
    refine v_at n' q x1 x5 (x6 + 1) x7 x8 a s h5 (by omega) ?_
    exact hk (A (Int32.toNatClampNeg a)) rfl n' _ _ _ _ (c + 1) (vFr.p (Nat.le_refl _)) (by rw [ti_add h5 d1 (by omega) (by omega)]; omega) (by rw [ti_add h6 d1 (by omega) (by omega)]; omega) (by rw [ti_add h8 d1 (by omega) (by omega)]; omega) (by omega) (by rw [cui_e]; exact hA _ (by omega))
  · -- two joined
    intro p b r d dd k o a f g hx hy hd ho hC
    obtain ⟨Cx, ihx⟩ := hx
    obtain ⟨Cy, ihy⟩ := hy
    refine ⟨Cd.join Cx Cy hd ho hC, fun q n x5 x6 x8 s c eC h5 h6 h8 hcp hpe hs h18 hA hk hf => ?_⟩
    have lx := Cx.lt
    have ly := Cy.lt
    refine ihx q n x5 x6 x8 s c eC h5 h6 h8 hcp (by omega) (by omega) h18 hA (fun v hv n1 q1 y5 y6 y8 c1 F1 g5 g6 g8 gc g19 => ?_) (fun hv n1 q1 y5 y6 y8 F1 => hf (vB_n1 hv) n1 q1 y5 y6 y8 F1)
    have A1 : ∀ k : Nat, k < 9 → Int32.toInt (q1.1 21 k) = A k := fun k hk9 => by rw [F1.1 21 k (by omega)]; exact hA k hk9
    have h181 : q1.1 18 1 = 0 := by rw [F1.1 18 1 (by omega)]; exact h18
    refine ihy q1 n1 y5 y6 y8 (s + 1) c1 ((vC_fr x1 F1).trans eC) g5 g6 g8 gc (by omega) (by omega) h181 A1 (fun w hw n2 q2 z5 z6 z8 c2 F2 k5 k6 k8 kc k19 => ?_) (fun hw n2 q2 z5 z6 z8 F2 => hf (vB_n2 hv hw) n2 q2 z5 z6 z8 (vFx.of F1 F2 (by omega)))
    have F12 : vFr s q q2 := F1.t F2 (by omega)
    have h182 : q2.1 18 1 = 0 := by rw [F12.1 18 1 (by omega)]; exact h18
    have e19 : q2.1 19 s = q1.1 19 s := F2.1 19 s (by omega)
    refine vLp_w n2 q2 x1 z5 z6 x7 z8 r e c2 k6 he k8 kc (by omega) h182 o a (by rw [(vC_fr x1 F12).trans eC]; exact hC) (fun n3 _ y0 _ _ z2 => ?_)
    have o0 : ¬ o = 0 := fun z => by rw [z] at ho; omega
    have o1 : ¬ o = 1 := fun z => by rw [z] at ho; omega
    have o10 : ¬ o = 10 := fun z => by rw [z] at ho; omega
    have o11 : ¬ o = 11 := fun z => by rw [z] at ho; omega
    have o12 : ¬ o = 12 := fun z => by rw [z] at ho; omega
    refine v98 n3 q2 x1 z5 z6 x7 z8 o a (s + 2) y0 k5 (by rw [z2 (by omega) (by omega)]; omega) (by omega) (fun z => absurd z o1) ?_
    obtain ⟨za, hza⟩ : ∃ y : Int32, z5 + (-1) = y := ⟨_, rfl⟩
    obtain ⟨zb, hzb⟩ : ∃ y : Int32, (za - 1 : Int32) = y := ⟨_, rfl⟩
    have t5 : Int32.toInt za = ((s + 1 : Nat) : Int) := by rw [← hza, ti_add k5 dm (by omega) (by omega)]; omega
    have t5' : Int32.toInt zb = (s : Int) := by rw [← hzb, ti_sub t5 d1 (by omega) (by omega)]; omega
    have n5 := cl_eq (i := za) (by omega)
    have n5' := cl_eq (i := zb) (by omega)
    have en : Int32.toNatClampNeg za = s + 1 := by omega
    have en' : Int32.toNatClampNeg zb = s := by omega
    unfold zX2_valueOf_s18_l_s21_139 zX2_valueOf_s18_l_s21_322
    refine dA_if (fun z => absurd z o0) (fun _ => dA_if (fun z => absurd z o1) (fun _ => dA_if (fun z => absurd z o10) (fun _ => dA_if (fun z => absurd z o11) (fun _ => dA_if (fun z => absurd z o12) (fun _ => ?_)))))
    rw [hza, hzb]
    refine dA_G (fun _ => dA_L (fun v2 e2 => dA_G (fun _ => dA_L (fun v4 e4 => dA_B (j_join q2 o v2 v4 (by omega) (by omega)) (fun r5 q7 hj => dA_G (fun _ => dA_L (fun q9 e9 => ?_)))))))
    rw [en'] at e2 e9
    rw [en] at e4
    have ev : v2.toInt = v := by rw [e2, e19]; exact g19
    have ew : v4.toInt = w := by rw [e4]; exact k19
    rw [ev, ew] at hj
    rcases hj with ⟨j1, j2⟩ | ⟨j1, j2, j3, j4⟩
    · replace j1 : jn o.toInt v w = some r5.toInt := j1
      replace j2 : q7 = q2 := j2
      subst j2
      refine hk r5.toInt ((vB_s hv hw).trans j1) n3 q9 _ _ _ (c2 + 1) ?_ t5 (by rw [ti_add k6 d1 (by omega) (by omega)]; omega) (by rw [ti_add k8 d1 (by omega) (by omega)]; omega) (by omega) (by rw [e9, cui_e])
      rw [e9]; exact F12.t (vFr.p (Nat.le_refl _)) (Nat.le_refl _)
    · replace j1 : jn o.toInt v w = none := j1
      replace j2 : ¬ q7.1 18 1 = 0 := j2
      replace j3 : ∀ j k : Nat, ¬ (j = 18 ∧ k = 1) → q7.1 j k = q2.1 j k := j3
      replace j4 : q7.2 = q2.2 := j4
      refine hf ((vB_s hv hw).trans j1) n3 q9 _ _ _ ⟨fun j k hj hk9 => ?_, ?_, ?_⟩
      · rw [e9, cui_x (fun z => hj ⟨z.1, by omega⟩), j3 j k hk9, F12.1 j k hj]
      · rw [e9]; exact j4.trans F12.2
      · rw [e9, cui_o (by decide)]; exact j2
  · -- not
    intro p b d a f hx hC
    obtain ⟨Cx, ihx⟩ := hx
    refine ⟨Cd.not Cx hC, fun q n x5 x6 x8 s c eC h5 h6 h8 hcp hpe hs h18 hA hk hf => ?_⟩
    have lx := Cx.lt
    refine ihx q n x5 x6 x8 s c eC h5 h6 h8 hcp (by omega) hs h18 hA (fun v hv n1 q1 y5 y6 y8 c1 F1 g5 g6 g8 gc g19 => ?_) (fun hv n1 q1 y5 y6 y8 F1 => hf (vN_n hv) n1 q1 y5 y6 y8 F1)
    have h181 : q1.1 18 1 = 0 := by rw [F1.1 18 1 (by omega)]; exact h18
    refine vLp_w n1 q1 x1 y5 y6 x7 y8 b e c1 g6 he g8 gc (by omega) h181 10 a (by rw [(vC_fr x1 F1).trans eC]; exact hC) (fun n3 _ y0 _ z1 _ => ?_)
    refine v98 n3 q1 x1 y5 y6 x7 y8 10 a (s + 1) y0 g5 (by rw [z1 (by omega)]; omega) (by omega) (fun z => absurd z (by decide)) ?_
    refine v_nt n3 q1 x1 y5 (y6 + 1) x7 y8 a s g5 (by omega) ?_
    have v01 := Cx.v01 rfl hv
    exact hk (1 - v) (vN_s hv) n3 _ _ _ _ (c1 + 1) (F1.t (vFr.p (Nat.le_refl _)) (Nat.le_refl _)) g5 (by rw [ti_add g6 d1 (by omega) (by omega)]; omega) (by rw [ti_add g8 d1 (by omega) (by omega)]; omega) (by omega) (by rw [cui_e, ti_sub d1 g19 (by omega) (by omega)])
  · -- and, or
    intro p b r d o a z f g hx ho hC ha hy
    obtain ⟨Cx, ihx⟩ := hx
    obtain ⟨Cy, ihy⟩ := hy
    refine ⟨Cd.leap Cx ho hC ha Cy, fun q n x5 x6 x8 s c eC h5 h6 h8 hcp hpe hs h18 hA hk hf => ?_⟩
    have lx := Cx.lt
    have ly := Cy.lt
    have o10 : 10 ≤ o.toInt ∧ ¬ o = 1 := by
      rcases ho with ho | ho
      · rw [ho.1]; exact ⟨by decide, by decide⟩
      · rw [ho.1]; exact ⟨by decide, by decide⟩
    refine ihx q n x5 x6 x8 s c eC h5 h6 h8 hcp (by omega) (by omega) h18 hA (fun v hv n1 q1 y5 y6 y8 c1 F1 g5 g6 g8 gc g19 => ?_) (fun hv n1 q1 y5 y6 y8 F1 => hf (vL_n hv) n1 q1 y5 y6 y8 F1)
    have h181 : q1.1 18 1 = 0 := by rw [F1.1 18 1 (by omega)]; exact h18
    have A1 : ∀ k : Nat, k < 9 → Int32.toInt (q1.1 21 k) = A k := fun k hk9 => by rw [F1.1 21 k (by omega)]; exact hA k hk9
    have t6 : Int32.toInt (y6 + 1) = ((b + 1 : Nat) : Int) := by rw [ti_add g6 d1 (by omega) (by omega)]; omega
    have t8 : Int32.toInt (y8 + 1) = ((c1 + 1 : Nat) : Int) := by rw [ti_add g8 d1 (by omega) (by omega)]; omega
    have t5 : Int32.toInt (y5 - 1 : Int32) = (s : Int) := by rw [ti_sub g5 d1 (by omega) (by omega)]; omega
    refine vLp_w n1 q1 x1 y5 y6 x7 y8 b e c1 g6 he g8 gc (by omega) h181 o a (by rw [(vC_fr x1 F1).trans eC]; exact hC) (fun n3 _ y0 _ z1 _ => ?_)
    refine v98 n3 q1 x1 y5 y6 x7 y8 o a (s + 1) y0 g5 (by rw [z1 o10.1]; omega) (by omega) (fun z => absurd z o10.2) ?_
    have hz : ∀ u : Int, Int32.toInt (q1.1 19 s) = u → (((o = 11 → q1.1 19 s = 0) ∧ (o = 12 → q1.1 19 s = 1)) ↔ u = z) := by
      intro u hu
      rcases ho with ⟨ho, hz⟩ | ⟨ho, hz⟩
      · subst ho hz
        exact ⟨fun w => by rw [← hu, w.1 rfl]; decide, fun w => ⟨fun _ => Int32.toInt_inj.mp (hu.trans (w.trans d0.symm)), fun w2 => absurd w2 (by decide)⟩⟩
      · subst ho hz
        exact ⟨fun w => by rw [← hu, w.2 rfl]; decide, fun w => ⟨fun w2 => absurd w2 (by decide), fun _ => Int32.toInt_inj.mp (hu.trans (w.trans d1.symm))⟩⟩
    have hoo : o = 11 ∨ o = 12 := by
      rcases ho with ho | ho
      · exact Or.inl ho.1
      · exact Or.inr ho.1
    refine v_leap n3 q1 x1 y5 (y6 + 1) x7 y8 o a s hoo g5 (by omega) (fun w1 w2 => ?_) (fun w1 w2 => ?_)
    · have ez : v = z := (hz v g19).mp ⟨w1, w2⟩
      exact hk v (vL_y hv ez) n3 q1 _ _ _ (c1 + 1) F1 g5 ha t8 (by omega) g19
    · have ez : ¬ v = z := fun w => by
        have x := (hz v g19).mpr w
        rcases hoo with y | y
        · exact w1 y (x.1 y)
        · exact w2 y (x.2 y)
      refine ihy q1 n3 (y5 - 1 : Int32) (y6 + 1) (y8 + 1) s (c1 + 1) ((vC_fr x1 F1).trans eC) t5 t6 t8 (by omega) (by omega) (by omega) h181 A1 (fun w hw n4 q4 z5 z6 z8 c4 F4 k5 k6 k8 kc k19 => ?_) (fun hw n4 q4 z5 z6 z8 F4 => hf ((vL_o hv ez).trans hw) n4 q4 z5 z6 z8 (vFx.of F1 F4 (Nat.le_refl _)))
      exact hk w ((vL_o hv ez).trans hw) n4 q4 z5 z6 z8 c4 (F1.t F4 (Nat.le_refl _)) k5 k6 k8 kc k19
/-- the whole: an expression's value, or 0 and the fault told -/
theorem vTop (A : Nat → Int) (x1 p2 p3 : Int32) (C : Nat → Int32) {a b d k : Nat} {f : VF} (hcd : Cd C 9 a b d k f) (hd : d ≤ 63) (q : dK) (eC : (dTx q x1).2.2.2.2 5 = C) (h2 : Int32.toInt p2 = (a : Int)) (h3 : Int32.toInt p3 = (b : Int)) (hb : b ≤ Int32.toNatClampNeg (dTx q x1).2.2.2.1) (hb4 : Int32.toNatClampNeg (dTx q x1).2.2.2.1 ≤ 400) (hA : ∀ k : Nat, k < 9 → Int32.toInt (q.1 21 k) = A k) : dAll (zX2_valueOf_s18_l_s21 q x1 p2 p3) (fun o => (∀ j k : Nat, ¬ j = 19 → ¬ (j = 18 ∧ k = 1) → o.2.1 j k = q.1 j k) ∧ o.2.2 = q.2 ∧ ((∃ v : Int, f A = some v ∧ Int32.toInt o.1 = v ∧ o.2.1 18 1 = 0) ∨ (f A = none ∧ o.1 = 0 ∧ ¬ o.2.1 18 1 = 0))) := by
  have d0 : Int32.toInt 0 = 0 := by decide
  unfold zX2_valueOf_s18_l_s21
  refine dA_L (fun q1 e1 => dA_L (fun q2 e2 => dA_G (fun _ => dA_G (fun _ => ?_ ))))
  have F : ∀ j k : Nat, ¬ j = 19 → ¬ (j = 18 ∧ k = 1) → q2.1 j k = q.1 j k := fun j k h19 h18 => by rw [e2, cui_o h19, e1, cui_x h18]
  have F2 : q2.2 = q.2 := by rw [e2, e1]; rfl
  have hl := hcd.lt
  have h18 : q2.1 18 1 = 0 := by rw [e2, cui_o (by decide), e1, cui_e]
  have hT : dTx q2 x1 = dTx q x1 := dTx_fr x1 F2
  have hm : Int32.toInt (mnI p3 (Int32.ofNat (Int32.toNatClampNeg (dTx q2 x1).2.2.2.1))) = (b : Int) := by
    rw [hT]
    have z := mn_le (a := p3) (b := Int32.ofNat (Int32.toNatClampNeg (dTx q x1).2.2.2.1))
    have z2 : Int32.toInt (Int32.ofNat (Int32.toNatClampNeg (dTx q x1).2.2.2.1)) = ((Int32.toNatClampNeg (dTx q x1).2.2.2.1 : Nat) : Int) := nI_toInt (n := Int32.toNatClampNeg (dTx q x1).2.2.2.1) (by omega)
    omega
  -- the end: nothing more to read
  have hend : ∀ (n' : Nat) (q' : dK) (y5 y6 x7 y8 : Int32), Int32.toInt x7 ≤ Int32.toInt y6 → (∀ j k : Nat, ¬ (j = 18 ∧ k = 1) → ¬ j = 19 → q'.1 j k = q2.1 j k) → q'.2 = q2.2 → ∀ v : Int, f A = some v → q'.1 18 1 = 0 → Int32.toInt (q'.1 19 0) = v → dAll (vLp n' q' x1 y5 y6 x7 y8) (fun o => (∀ j k : Nat, ¬ j = 19 → ¬ (j = 18 ∧ k = 1) → o.2.1 j k = q.1 j k) ∧ o.2.2 = q.2 ∧ ((∃ v : Int, f A = some v ∧ Int32.toInt o.1 = v ∧ o.2.1 18 1 = 0) ∨ (f A = none ∧ o.1 = 0 ∧ ¬ o.2.1 18 1 = 0))) := by
    intro n' q' y5 y6 x7 y8 hle g1 g2 v hv g18 g19
    cases n' with
    | zero => exact vLp_0 q' x1 y5 y6 x7 y8
    | succ n' =>
      rw [vLp_s]
      have h3 : dAll (zX2_valueOf_s18_l_s21_328 q') (fun o => (∀ j k : Nat, ¬ j = 19 → ¬ (j = 18 ∧ k = 1) → o.2.1 j k = q.1 j k) ∧ o.2.2 = q.2 ∧ ((∃ v : Int, f A = some v ∧ Int32.toInt o.1 = v ∧ o.2.1 18 1 = 0) ∨ (f A = none ∧ o.1 = 0 ∧ ¬ o.2.1 18 1 = 0))) := by
        unfold zX2_valueOf_s18_l_s21_328 zX2_valueOf_s18_l_s21_345
        exact dA_if (fun _ => dA_some ⟨fun j k w1 w2 => (g1 j k w2 w1).trans (F j k w1 w2), g2.trans F2, Or.inl ⟨v, hv, g19, g18⟩⟩) (fun c => absurd g18 c)
      unfold zX2_valueOf_s18_l_s21_32b
      exact dA_le (fun _ => h3) (fun _ => dA_le (fun _ => h3) (fun c => by omega))
  refine vLp_T A x1 _ b hm (by omega) C hcd q2 dF 0 p2 p2 0 a (by rw [hT]; exact eC) d0 h2 h2 (Nat.le_refl _) (Nat.le_refl _) (by omega) h18 (fun k hk => by rw [F 21 k (by omega) (by omega)]; exact hA k hk) (fun v hv n' q' y5 y6 y8 c' G1 g5 g6 g8 gc g19 => ?_) (fun hv n' q' y5 y6 y8 G1 => ?_)
  · exact hend n' q' y5 y6 _ y8 (by rw [g6, hm]; omega) (fun j k w1 w2 => G1.1 j k (fun z => w2 z.1)) G1.2 v hv (by rw [G1.1 18 1 (by omega)]; exact h18) g19
  · refine dA_mono (vLp_f n' q' x1 y5 y6 _ y8 G1.2.2) (fun o w => ?_)
    have e := w.2
    refine ⟨fun j k w1 w2 => ?_, ?_, Or.inr ⟨hv, w.1, ?_⟩⟩
    · rw [e, G1.1 j k (fun z => w1 z.1) w2]; exact F j k w1 w2
    · rw [e, G1.2.1]; exact F2
    · rw [e]; exact G1.2.2
/-- no code: 1 -/
theorem vEmp (x1 p2 p3 : Int32) (q : dK) (h : Int32.toInt p3 ≤ Int32.toInt p2) : dAll (zX2_valueOf_s18_l_s21 q x1 p2 p3) (fun o => (∀ j k : Nat, ¬ j = 19 → ¬ (j = 18 ∧ k = 1) → o.2.1 j k = q.1 j k) ∧ o.2.2 = q.2 ∧ o.1 = 1 ∧ o.2.1 18 1 = 0) := by
  unfold zX2_valueOf_s18_l_s21
  refine dA_L (fun q1 e1 => dA_L (fun q2 e2 => dA_G (fun _ => dA_G (fun _ => ?_ ))))
  have F : ∀ j k : Nat, ¬ j = 19 → ¬ (j = 18 ∧ k = 1) → q2.1 j k = q.1 j k := fun j k h19 h18 => by rw [e2, cui_o h19, e1, cui_x h18]
  have F2 : q2.2 = q.2 := by rw [e2, e1]; rfl
  have h18 : q2.1 18 1 = 0 := by rw [e2, cui_o (by decide), e1, cui_e]
  have h19 : q2.1 19 0 = 1 := by rw [e2, cui_e]
  have key : ∀ (n' : Nat) (x7 : Int32), Int32.toInt x7 ≤ Int32.toInt p2 → dAll (vLp n' q2 x1 0 p2 x7 p2) (fun o => (∀ j k : Nat, ¬ j = 19 → ¬ (j = 18 ∧ k = 1) → o.2.1 j k = q.1 j k) ∧ o.2.2 = q.2 ∧ o.1 = 1 ∧ o.2.1 18 1 = 0) := by
    intro n' x7 hle
    cases n' with
    | zero => exact vLp_0 q2 x1 0 p2 x7 p2
    | succ n' =>
      rw [vLp_s]
      unfold zX2_valueOf_s18_l_s21_32b
      refine dA_le (fun _ => ?_) (fun c => by omega)
      unfold zX2_valueOf_s18_l_s21_328 zX2_valueOf_s18_l_s21_345
      exact dA_if (fun _ => dA_some ⟨F, F2, h19, h18⟩) (fun c => absurd h18 c)
  exact key dF _ (by
    have z := mn_le (a := p3) (b := Int32.ofNat (Int32.toNatClampNeg (dTx q2 x1).2.2.2.1))
    omega)
/-- the loop, one turn on -/
noncomputable abbrev voLp (n : Nat) (q : dK) (x5 x6 x7 x8 : Int32) : Option (Int32 × dK) := zX2_valueOf_s18_s25_s23_32 n q x5 x6 x7 x8
theorem voLp_s (n : Nat) (q : dK) (x5 x6 x7 x8 : Int32) : voLp (n + 1) q x5 x6 x7 x8 = zX2_valueOf_s18_s25_s23_32b (fun q x5 x6 x7 x8 => voLp n q x5 x6 x7 x8) q x5 x6 x7 x8 := rfl
theorem voLp_0 {P : Int32 × dK → Prop} (q : dK) (x5 x6 x7 x8 : Int32) : dAll (voLp 0 q x5 x6 x7 x8) P := by
  intro o e
  cases e
/-- behind a fault: 0 -/
theorem voLp_f (n : Nat) (q : dK) (x5 x6 x7 x8 : Int32) (h : ¬ q.1 18 1 = 0) : dAll (voLp n q x5 x6 x7 x8) (fun o => o.1 = 0 ∧ o.2 = q) := by
  cases n with
  | zero => exact voLp_0 q x5 x6 x7 x8
  | succ n =>
    rw [voLp_s]
    have h3 : dAll (zX2_valueOf_s18_s25_s23_328 q) (fun o => o.1 = 0 ∧ o.2 = q) := by
      unfold zX2_valueOf_s18_s25_s23_328 zX2_valueOf_s18_s25_s23_345
      exact dA_if (fun c => absurd c h) (fun _ => dA_some ⟨rfl, rfl⟩)
    unfold zX2_valueOf_s18_s25_s23_32b
    exact dA_if (fun _ => h3) (fun _ => dA_if (fun _ => h3) (fun _ => dA_if (fun c => absurd c h) (fun _ => h3)))
/-- what stays while a value is worked out above the s lowest places -/
def voFr (s : Nat) (q o : dK) : Prop := (∀ j k : Nat, ¬ (j = 19 ∧ s ≤ k) → o.1 j k = q.1 j k) ∧ o.2 = q.2
theorem voFr.rf {s : Nat} {q : dK} : voFr s q q := ⟨fun _ _ _ => rfl, rfl⟩
theorem voFr.t {s s2 : Nat} {q q1 o : dK} (h : voFr s q q1) (h2 : voFr s2 q1 o) (hs : s ≤ s2) : voFr s q o := ⟨fun j k hj => (h2.1 j k (fun z => hj ⟨z.1, by omega⟩)).trans (h.1 j k hj), h2.2.trans h.2⟩
theorem voFr.p {s : Nat} {q : dK} {k : Nat} {v : Int32} (hk : s ≤ k) : voFr s q (cui q 19 k v) := ⟨fun j i hj => cui_x (fun z => hj ⟨z.1, by omega⟩), rfl⟩
/-- one turn: a word is read, it says what it says -/
theorem voLp_w {P : Int32 × dK → Prop} (n : Nat) (q : dK) (x5 x6 x7 x8 : Int32) (p e c : Nat) (hp : Int32.toInt x6 = (p : Int)) (he : Int32.toInt x7 = (e : Int)) (hc : Int32.toInt x8 = (c : Int)) (hcp : c ≤ p) (hpe : p < e) (h18 : q.1 18 1 = 0) (o a : Int32) (hw : cdW (q.1 31) p o a)
    (h : ∀ n' : Nat, n = n' + 1 → ∀ y0 : Int32, (o.toInt ≤ 1 → y0 = 0) → (10 ≤ o.toInt → y0 = 1) → (2 ≤ o.toInt → o.toInt < 10 → y0 = 2) → dAll (zX2_valueOf_s18_s25_s23_98 (fun q x5 x6 x7 x8 => voLp n' q x5 x6 x7 x8) q x5 x6 x7 x8 o a y0) P) : dAll (voLp n q x5 x6 x7 x8) P := by
  have d1 : Int32.toInt 1 = 1 := by decide
  have d10 : Int32.toInt 10 = 10 := by decide
  cases n with
  | zero => exact voLp_0 q x5 x6 x7 x8
  | succ n =>
    have h := h n rfl
    rw [voLp_s]
    unfold zX2_valueOf_s18_s25_s23_32b
    have n6 := cl_eq (i := x6) (by omega)
    refine dA_le (fun z => by omega) (fun _ => dA_le (fun z => by omega) (fun _ => dA_if (fun _ => ?_) (fun z => absurd h18 z)))
    refine dA_G (fun _ => dA_L (fun v4 e4 => dA_G (fun _ => dA_L (fun v8 e8 => ?_))))
    have ep : Int32.toNatClampNeg x6 = p := by omega
    rw [ep] at e4 e8
    have w4 : (v4 &&& 15 : Int32) = o := by rw [e4]; exact hw.1
    have w8 : (v8 >>> ((4 : Int32) &&& 31) : Int32) = a := by rw [e8]; exact hw.2
    rw [w4, w8]
    refine dA_lt (fun z1 => dA_le (fun z2 => h 1 (fun z => by omega) (fun _ => rfl) (fun _ z => by omega)) (fun z2 => h 2 (fun z => by omega) (fun z => by omega) (fun _ _ => rfl))) (fun z1 => h 0 (fun _ => rfl) (fun z => by omega) (fun z _ => by omega))
theorem voC_fr {s : Nat} {q o : dK} (h : voFr s q o) : o.1 31 = q.1 31 := funext (fun k => h.1 31 k (by omega))
/-- the same behind a fault -/
def voFx (s : Nat) (q o : dK) : Prop := (∀ j k : Nat, ¬ (j = 19 ∧ s ≤ k) → ¬ (j = 18 ∧ k = 1) → o.1 j k = q.1 j k) ∧ o.2 = q.2 ∧ ¬ o.1 18 1 = 0
theorem voFx.of {s s2 : Nat} {q q1 o : dK} (h : voFr s q q1) (h2 : voFx s2 q1 o) (hs : s ≤ s2) : voFx s q o := ⟨fun j k hj hk => (h2.1 j k (fun z => hj ⟨z.1, by omega⟩) hk).trans (h.1 j k hj), h2.2.1.trans h.2, h2.2.2⟩
section
variable {P : Int32 × dK → Prop} (n : Nat) (q : dK) (x5 x6 x7 x8 : Int32) (o a : Int32) (s : Nat)
theorem vo98 (y0 : Int32) (h5 : Int32.toInt x5 = (s : Int)) (hy : y0.toInt ≤ (s : Int)) (h64 : s < 64) (h1 : o = 1 → a.toInt < 17) (h : dAll (zX2_valueOf_s18_s25_s23_139 (fun q x5 x6 x7 x8 => voLp n q x5 x6 x7 x8) q x5 (x6 + 1) x7 x8 o a) P) : dAll (zX2_valueOf_s18_s25_s23_98 (fun q x5 x6 x7 x8 => voLp n q x5 x6 x7 x8) q x5 x6 x7 x8 o a y0) P := by
  have d64 : Int32.toInt 64 = 64 := by decide
  have d9 : Int32.toInt 17 = 17 := by decide
  unfold zX2_valueOf_s18_s25_s23_98
  exact dA_lt (fun z => by omega) (fun _ => dA_le (fun z => by omega) (fun _ => dA_if (fun z => dA_lt (fun _ => h) (fun z2 => by have := h1 z; omega)) (fun _ => h)))
theorem vo_push (v : Int32) (h5 : Int32.toInt x5 = (s : Int)) (h64 : s < 64) (h : dAll (voLp n (cui q 19 s v) (x5 + 1) x6 x7 (x8 + 1)) P) : dAll (zX2_valueOf_s18_s25_s23_171 (fun q x5 x6 x7 x8 => voLp n q x5 x6 x7 x8) q x5 x6 x7 x8 v x5) P := by
  have n5 := cl_eq (i := x5) (by omega)
  unfold zX2_valueOf_s18_s25_s23_171 zX2_valueOf_s18_s25_s23_322
  refine dA_G (fun _ => dA_L (fun q2 e2 => ?_))
  rw [show Int32.toNatClampNeg x5 = s by omega] at e2
  rw [e2]; exact h
theorem vo_num (h5 : Int32.toInt x5 = (s : Int)) (h64 : s < 64) (h : dAll (voLp n (cui q 19 s a) (x5 + 1) x6 x7 (x8 + 1)) P) : dAll (zX2_valueOf_s18_s25_s23_139 (fun q x5 x6 x7 x8 => voLp n q x5 x6 x7 x8) q x5 x6 x7 x8 0 a) P := by
  unfold zX2_valueOf_s18_s25_s23_139 zX2_valueOf_s18_s25_s23_150
  exact dA_if (fun _ => dA_if (fun _ => vo_push n q x5 x6 x7 x8 s a h5 h64 h) (fun z => absurd rfl z)) (fun z => absurd rfl z)
theorem vo_at (h5 : Int32.toInt x5 = (s : Int)) (h64 : s < 64) (h : dAll (voLp n (cui q 19 s (q.1 23 (Int32.toNatClampNeg a))) (x5 + 1) x6 x7 (x8 + 1)) P) : dAll (zX2_valueOf_s18_s25_s23_139 (fun q x5 x6 x7 x8 => voLp n q x5 x6 x7 x8) q x5 x6 x7 x8 1 a) P := by
  unfold zX2_valueOf_s18_s25_s23_139 zX2_valueOf_s18_s25_s23_150
  refine dA_if (fun z => absurd z (by decide)) (fun _ => dA_if (fun _ => dA_if (fun z => absurd z (by decide)) (fun _ => dA_G (fun _ => dA_L (fun v2 e2 => ?_)))) (fun z => absurd rfl z))
  rw [← e2] at h
  exact vo_push n q x5 x6 x7 x8 s v2 h5 h64 h
theorem vo_nt (h5 : Int32.toInt x5 = ((s + 1 : Nat) : Int)) (h64 : s < 64) (h : dAll (voLp n (cui q 19 s (1 - q.1 19 s : Int32)) x5 x6 x7 (x8 + 1)) P) : dAll (zX2_valueOf_s18_s25_s23_139 (fun q x5 x6 x7 x8 => voLp n q x5 x6 x7 x8) q x5 x6 x7 x8 10 a) P := by
  have d1 : Int32.toInt 1 = 1 := by decide
  have t5 : Int32.toInt (x5 - 1 : Int32) = (s : Int) := by rw [ti_sub h5 d1 (by omega) (by omega)]; omega
  have n5 := cl_eq (i := (x5 - 1 : Int32)) (by omega)
  have en : Int32.toNatClampNeg (x5 - 1 : Int32) = s := by omega
  unfold zX2_valueOf_s18_s25_s23_139 zX2_valueOf_s18_s25_s23_322
  refine dA_if (fun z => absurd z (by decide)) (fun _ => dA_if (fun z => absurd z (by decide)) (fun _ => dA_if (fun _ => dA_G (fun _ => dA_L (fun v11 e11 => dA_G (fun _ => dA_L (fun q13 e13 => ?_))))) (fun z => absurd rfl z)))
  rw [en] at e11 e13
  rw [e13, e11]; exact h
/-- and (11), or (12): on with the other side, or a leap -/
theorem vo_leap (hb : o = 11 ∨ o = 12) (h5 : Int32.toInt x5 = ((s + 1 : Nat) : Int)) (h64 : s < 64)
    (hj : (o = 11 → q.1 19 s = 0) → (o = 12 → q.1 19 s = 1) → dAll (voLp n q x5 a x7 (x8 + 1)) P)
    (hn : (o = 11 → ¬ q.1 19 s = 0) → (o = 12 → ¬ q.1 19 s = 1) → dAll (voLp n q (x5 - 1 : Int32) x6 x7 (x8 + 1)) P) : dAll (zX2_valueOf_s18_s25_s23_139 (fun q x5 x6 x7 x8 => voLp n q x5 x6 x7 x8) q x5 x6 x7 x8 o a) P := by
  have d1 : Int32.toInt 1 = 1 := by decide
  have t5 : Int32.toInt (x5 - 1 : Int32) = (s : Int) := by rw [ti_sub h5 d1 (by omega) (by omega)]; omega
  have n5 := cl_eq (i := (x5 - 1 : Int32)) (by omega)
  have en : Int32.toNatClampNeg (x5 - 1 : Int32) = s := by omega
  have h251 : ∀ y : Int32, ((y = 0 → (o = 11 → ¬ q.1 19 s = 0) ∧ (o = 12 → ¬ q.1 19 s = 1)) ∧ (¬ y = 0 → (o = 11 → q.1 19 s = 0) ∧ (o = 12 → q.1 19 s = 1))) → dAll (zX2_valueOf_s18_s25_s23_251 (fun q x5 x6 x7 x8 => voLp n q x5 x6 x7 x8) q x5 x6 x7 x8 a y) P := by
    intro y hy
    unfold zX2_valueOf_s18_s25_s23_251 zX2_valueOf_s18_s25_s23_265 zX2_valueOf_s18_s25_s23_281 zX2_valueOf_s18_s25_s23_322
    refine dA_if (fun z => dA_if (fun _ => hn (hy.1 z).1 (hy.1 z).2) (fun z2 => absurd z z2)) (fun z => dA_if (fun z2 => absurd z2 z) (fun _ => hj (hy.2 z).1 (hy.2 z).2))
  unfold zX2_valueOf_s18_s25_s23_139 zX2_valueOf_s18_s25_s23_222 zX2_valueOf_s18_s25_s23_243
  rcases hb with hb | hb
  · subst hb
    refine dA_if (fun z => absurd z (by decide)) (fun _ => dA_if (fun z => absurd z (by decide)) (fun _ => dA_if (fun z => absurd z (by decide)) (fun _ => dA_if (fun _ => dA_G (fun _ => dA_L (fun v2 e2 => ?_))) (fun z => absurd rfl z))))
    rw [en] at e2
    refine dA_if (fun z => absurd z (by decide)) (fun _ => dA_if (fun z => h251 1 ⟨fun z2 => absurd z2 (by decide), fun _ => ⟨fun _ => by rw [← e2]; exact z, fun z2 => absurd z2 (by decide)⟩⟩) (fun z => h251 0 ⟨fun _ => ⟨fun _ => by rw [← e2]; exact z, fun z2 => absurd z2 (by decide)⟩, fun z2 => absurd rfl z2⟩))
  · subst hb
    refine dA_if (fun z => absurd z (by decide)) (fun _ => dA_if (fun z => absurd z (by decide)) (fun _ => dA_if (fun z => absurd z (by decide)) (fun _ => dA_if (fun z => absurd z (by decide)) (fun _ => dA_if (fun _ => dA_G (fun _ => dA_L (fun v2 e2 => ?_))) (fun z => absurd rfl z)))))
    rw [en] at e2
    refine dA_if (fun _ => dA_if (fun z => h251 1 ⟨fun z2 => absurd z2 (by decide), fun _ => ⟨fun z2 => absurd z2 (by decide), fun _ => by rw [← e2]; exact z⟩⟩) (fun z => h251 0 ⟨fun _ => ⟨fun z2 => absurd z2 (by decide), fun _ => by rw [← e2]; exact z⟩, fun z2 => absurd rfl z2⟩)) (fun z => absurd rfl z)
end
/-- what the class's stack does with an expression's code -/
theorem voLp_T {P : Int32 × dK → Prop} (A : Nat → Int) (x7 : Int32) (e : Nat) (he : Int32.toInt x7 = (e : Int)) (he4 : e ≤ 400) (C : Nat → Int32) {a0 b0 d0' k0 : Nat} {f0 : VF} (hcd : Cd C 17 a0 b0 d0' k0 f0) : ∀ (q : dK) (n : Nat) (x5 x6 x8 : Int32) (s c : Nat), q.1 31 = C → Int32.toInt x5 = (s : Int) → Int32.toInt x6 = (a0 : Int) → Int32.toInt x8 = (c : Int) → c ≤ a0 → b0 ≤ e → s + d0' ≤ 63 → q.1 18 1 = 0 → (∀ k : Nat, k < 17 → Int32.toInt (q.1 23 k) = A k) →
    (∀ v : Int, f0 A = some v → ∀ (n' : Nat) (q' : dK) (y5 y6 y8 : Int32) (c' : Nat), voFr s q q' → Int32.toInt y5 = ((s + 1 : Nat) : Int) → Int32.toInt y6 = (b0 : Int) → Int32.toInt y8 = (c' : Int) → c' ≤ b0 → Int32.toInt (q'.1 19 s) = v → dAll (voLp n' q' y5 y6 x7 y8) P) →
    (f0 A = none → ∀ (n' : Nat) (q' : dK) (y5 y6 y8 : Int32), voFx s q q' → dAll (voLp n' q' y5 y6 x7 y8) P) → dAll (voLp n q x5 x6 x7 x8) P := by
  have d1 : Int32.toInt 1 = 1 := by decide
  have d0 : Int32.toInt 0 = 0 := by decide
  have dm : Int32.toInt (-1) = -1 := by decide
  have d2' : Int32.toInt 2 = 2 := by decide
  have d10 : Int32.toInt 10 = 10 := by decide
  have d11 : Int32.toInt 11 = 11 := by decide
  have d12 : Int32.toInt 12 = 12 := by decide
  refine (hcd (fun a0 b0 d0' k0 f0 => Cd C 17 a0 b0 d0' k0 f0 ∧ ∀ (q : dK) (n : Nat) (x5 x6 x8 : Int32) (s c : Nat), q.1 31 = C → Int32.toInt x5 = (s : Int) → Int32.toInt x6 = (a0 : Int) → Int32.toInt x8 = (c : Int) → c ≤ a0 → b0 ≤ e → s + d0' ≤ 63 → q.1 18 1 = 0 → (∀ k : Nat, k < 17 → Int32.toInt (q.1 23 k) = A k) →
    (∀ v : Int, f0 A = some v → ∀ (n' : Nat) (q' : dK) (y5 y6 y8 : Int32) (c' : Nat), voFr s q q' → Int32.toInt y5 = ((s + 1 : Nat) : Int) → Int32.toInt y6 = (b0 : Int) → Int32.toInt y8 = (c' : Int) → c' ≤ b0 → Int32.toInt (q'.1 19 s) = v → dAll (voLp n' q' y5 y6 x7 y8) P) →
    (f0 A = none → ∀ (n' : Nat) (q' : dK) (y5 y6 y8 : Int32), voFx s q q' → dAll (voLp n' q' y5 y6 x7 y8) P) → dAll (voLp n q x5 x6 x7 x8) P) ⟨?_, ?_, ?_, ?_, ?_⟩).2
  · -- a number
    intro p d a hd hC
    refine ⟨Cd.num hd hC, fun q n x5 x6 x8 s c eC h5 h6 h8 hcp hpe hs h18 hA hk hf => ?_⟩
    refine voLp_w n q x5 x6 x7 x8 p e c h6 he h8 hcp (by omega) h18 0 a (by rw [eC]; exact hC) (fun n' _ y0 z0 _ _ => ?_)
    refine vo98 n' q x5 x6 x7 x8 0 a s y0 h5 (by rw [z0 (by omega)]; omega) (by omega) (fun z => absurd z (by decide)) ?_
    refine vo_num n' q x5 (x6 + 1) x7 x8 a s h5 (by omega) ?_
    exact hk a.toInt rfl n' _ _ _ _ (c + 1) (voFr.p (Nat.le_refl _)) (by rw [ti_add h5 d1 (by omega) (by omega)]; omega) (by rw [ti_add h6 d1 (by omega) (by omega)]; omega) (by rw [ti_add h8 d1 (by omega) (by omega)]; omega) (by omega) (by rw [cui_e])
  · -- a word
    intro p d a hd hC ha0 ha9
    refine ⟨Cd.wrd hd hC ha0 ha9, fun q n x5 x6 x8 s c eC h5 h6 h8 hcp hpe hs h18 hA hk hf => ?_⟩
    have na := cl_eq (i := a) ha0
    refine voLp_w n q x5 x6 x7 x8 p e c h6 he h8 hcp (by omega) h18 1 a (by rw [eC]; exact hC) (fun n' _ y0 z0 _ _ => ?_)
    refine vo98 n' q x5 x6 x7 x8 1 a s y0 h5 (by rw [z0 (by omega)]; omega) (by omega) (fun _ => ha9) ?_
    refine vo_at n' q x5 (x6 + 1) x7 x8 a s h5 (by omega) ?_
    exact hk (A (Int32.toNatClampNeg a)) rfl n' _ _ _ _ (c + 1) (voFr.p (Nat.le_refl _)) (by rw [ti_add h5 d1 (by omega) (by omega)]; omega) (by rw [ti_add h6 d1 (by omega) (by omega)]; omega) (by rw [ti_add h8 d1 (by omega) (by omega)]; omega) (by omega) (by rw [cui_e]; exact hA _ (by omega))
  · -- two joined
    intro p b r d dd k o a f g hx hy hd ho hC
    obtain ⟨Cx, ihx⟩ := hx
    obtain ⟨Cy, ihy⟩ := hy
    refine ⟨Cd.join Cx Cy hd ho hC, fun q n x5 x6 x8 s c eC h5 h6 h8 hcp hpe hs h18 hA hk hf => ?_⟩
    have lx := Cx.lt
    have ly := Cy.lt
    refine ihx q n x5 x6 x8 s c eC h5 h6 h8 hcp (by omega) (by omega) h18 hA (fun v hv n1 q1 y5 y6 y8 c1 F1 g5 g6 g8 gc g19 => ?_) (fun hv n1 q1 y5 y6 y8 F1 => hf (vB_n1 hv) n1 q1 y5 y6 y8 F1)
    have A1 : ∀ k : Nat, k < 17 → Int32.toInt (q1.1 23 k) = A k := fun k hk9 => by rw [F1.1 23 k (by omega)]; exact hA k hk9
    have h181 : q1.1 18 1 = 0 := by rw [F1.1 18 1 (by omega)]; exact h18
    refine ihy q1 n1 y5 y6 y8 (s + 1) c1 ((voC_fr F1).trans eC) g5 g6 g8 gc (by omega) (by omega) h181 A1 (fun w hw n2 q2 z5 z6 z8 c2 F2 k5 k6 k8 kc k19 => ?_) (fun hw n2 q2 z5 z6 z8 F2 => hf (vB_n2 hv hw) n2 q2 z5 z6 z8 (voFx.of F1 F2 (by omega)))
    have F12 : voFr s q q2 := F1.t F2 (by omega)
    have h182 : q2.1 18 1 = 0 := by rw [F12.1 18 1 (by omega)]; exact h18
    have e19 : q2.1 19 s = q1.1 19 s := F2.1 19 s (by omega)
    refine voLp_w n2 q2 z5 z6 x7 z8 r e c2 k6 he k8 kc (by omega) h182 o a (by rw [(voC_fr F12).trans eC]; exact hC) (fun n3 _ y0 _ _ z2 => ?_)
    have o0 : ¬ o = 0 := fun z => by rw [z] at ho; omega
    have o1 : ¬ o = 1 := fun z => by rw [z] at ho; omega
    have o10 : ¬ o = 10 := fun z => by rw [z] at ho; omega
    have o11 : ¬ o = 11 := fun z => by rw [z] at ho; omega
    have o12 : ¬ o = 12 := fun z => by rw [z] at ho; omega
    refine vo98 n3 q2 z5 z6 x7 z8 o a (s + 2) y0 k5 (by rw [z2 (by omega) (by omega)]; omega) (by omega) (fun z => absurd z o1) ?_
    obtain ⟨za, hza⟩ : ∃ y : Int32, z5 + (-1) = y := ⟨_, rfl⟩
    obtain ⟨zb, hzb⟩ : ∃ y : Int32, (za - 1 : Int32) = y := ⟨_, rfl⟩
    have t5 : Int32.toInt za = ((s + 1 : Nat) : Int) := by rw [← hza, ti_add k5 dm (by omega) (by omega)]; omega
    have t5' : Int32.toInt zb = (s : Int) := by rw [← hzb, ti_sub t5 d1 (by omega) (by omega)]; omega
    have n5 := cl_eq (i := za) (by omega)
    have n5' := cl_eq (i := zb) (by omega)
    have en : Int32.toNatClampNeg za = s + 1 := by omega
    have en' : Int32.toNatClampNeg zb = s := by omega
    unfold zX2_valueOf_s18_s25_s23_139 zX2_valueOf_s18_s25_s23_322
    refine dA_if (fun z => absurd z o0) (fun _ => dA_if (fun z => absurd z o1) (fun _ => dA_if (fun z => absurd z o10) (fun _ => dA_if (fun z => absurd z o11) (fun _ => dA_if (fun z => absurd z o12) (fun _ => ?_)))))
    rw [hza, hzb]
    refine dA_G (fun _ => dA_L (fun v2 e2 => dA_G (fun _ => dA_L (fun v4 e4 => dA_B (j_join q2 o v2 v4 (by omega) (by omega)) (fun r5 q7 hj => dA_G (fun _ => dA_L (fun q9 e9 => ?_)))))))
    rw [en'] at e2 e9
    rw [en] at e4
    have ev : v2.toInt = v := by rw [e2, e19]; exact g19
    have ew : v4.toInt = w := by rw [e4]; exact k19
    rw [ev, ew] at hj
    rcases hj with ⟨j1, j2⟩ | ⟨j1, j2, j3, j4⟩
    · replace j1 : jn o.toInt v w = some r5.toInt := j1
      replace j2 : q7 = q2 := j2
      subst j2
      refine hk r5.toInt ((vB_s hv hw).trans j1) n3 q9 _ _ _ (c2 + 1) ?_ t5 (by rw [ti_add k6 d1 (by omega) (by omega)]; omega) (by rw [ti_add k8 d1 (by omega) (by omega)]; omega) (by omega) (by rw [e9, cui_e])
      rw [e9]; exact F12.t (voFr.p (Nat.le_refl _)) (Nat.le_refl _)
    · replace j1 : jn o.toInt v w = none := j1
      replace j2 : ¬ q7.1 18 1 = 0 := j2
      replace j3 : ∀ j k : Nat, ¬ (j = 18 ∧ k = 1) → q7.1 j k = q2.1 j k := j3
      replace j4 : q7.2 = q2.2 := j4
      refine hf ((vB_s hv hw).trans j1) n3 q9 _ _ _ ⟨fun j k hj hk9 => ?_, ?_, ?_⟩
      · rw [e9, cui_x (fun z => hj ⟨z.1, by omega⟩), j3 j k hk9, F12.1 j k hj]
      · rw [e9]; exact j4.trans F12.2
      · rw [e9, cui_o (by decide)]; exact j2
  · -- not
    intro p b d a f hx hC
    obtain ⟨Cx, ihx⟩ := hx
    refine ⟨Cd.not Cx hC, fun q n x5 x6 x8 s c eC h5 h6 h8 hcp hpe hs h18 hA hk hf => ?_⟩
    have lx := Cx.lt
    refine ihx q n x5 x6 x8 s c eC h5 h6 h8 hcp (by omega) hs h18 hA (fun v hv n1 q1 y5 y6 y8 c1 F1 g5 g6 g8 gc g19 => ?_) (fun hv n1 q1 y5 y6 y8 F1 => hf (vN_n hv) n1 q1 y5 y6 y8 F1)
    have h181 : q1.1 18 1 = 0 := by rw [F1.1 18 1 (by omega)]; exact h18
    refine voLp_w n1 q1 y5 y6 x7 y8 b e c1 g6 he g8 gc (by omega) h181 10 a (by rw [(voC_fr F1).trans eC]; exact hC) (fun n3 _ y0 _ z1 _ => ?_)
    refine vo98 n3 q1 y5 y6 x7 y8 10 a (s + 1) y0 g5 (by rw [z1 (by omega)]; omega) (by omega) (fun z => absurd z (by decide)) ?_
    refine vo_nt n3 q1 y5 (y6 + 1) x7 y8 a s g5 (by omega) ?_
    have v01 := Cx.v01 rfl hv
    exact hk (1 - v) (vN_s hv) n3 _ _ _ _ (c1 + 1) (F1.t (voFr.p (Nat.le_refl _)) (Nat.le_refl _)) g5 (by rw [ti_add g6 d1 (by omega) (by omega)]; omega) (by rw [ti_add g8 d1 (by omega) (by omega)]; omega) (by omega) (by rw [cui_e, ti_sub d1 g19 (by omega) (by omega)])
  · -- and, or
    intro p b r d o a z f g hx ho hC ha hy
    obtain ⟨Cx, ihx⟩ := hx
    obtain ⟨Cy, ihy⟩ := hy
    refine ⟨Cd.leap Cx ho hC ha Cy, fun q n x5 x6 x8 s c eC h5 h6 h8 hcp hpe hs h18 hA hk hf => ?_⟩
    have lx := Cx.lt
    have ly := Cy.lt
    have o10 : 10 ≤ o.toInt ∧ ¬ o = 1 := by
      rcases ho with ho | ho
      · rw [ho.1]; exact ⟨by decide, by decide⟩
      · rw [ho.1]; exact ⟨by decide, by decide⟩
    refine ihx q n x5 x6 x8 s c eC h5 h6 h8 hcp (by omega) (by omega) h18 hA (fun v hv n1 q1 y5 y6 y8 c1 F1 g5 g6 g8 gc g19 => ?_) (fun hv n1 q1 y5 y6 y8 F1 => hf (vL_n hv) n1 q1 y5 y6 y8 F1)
    have h181 : q1.1 18 1 = 0 := by rw [F1.1 18 1 (by omega)]; exact h18
    have A1 : ∀ k : Nat, k < 17 → Int32.toInt (q1.1 23 k) = A k := fun k hk9 => by rw [F1.1 23 k (by omega)]; exact hA k hk9
    have t6 : Int32.toInt (y6 + 1) = ((b + 1 : Nat) : Int) := by rw [ti_add g6 d1 (by omega) (by omega)]; omega
    have t8 : Int32.toInt (y8 + 1) = ((c1 + 1 : Nat) : Int) := by rw [ti_add g8 d1 (by omega) (by omega)]; omega
    have t5 : Int32.toInt (y5 - 1 : Int32) = (s : Int) := by rw [ti_sub g5 d1 (by omega) (by omega)]; omega
    refine voLp_w n1 q1 y5 y6 x7 y8 b e c1 g6 he g8 gc (by omega) h181 o a (by rw [(voC_fr F1).trans eC]; exact hC) (fun n3 _ y0 _ z1 _ => ?_)
    refine vo98 n3 q1 y5 y6 x7 y8 o a (s + 1) y0 g5 (by rw [z1 o10.1]; omega) (by omega) (fun z => absurd z o10.2) ?_
    have hz : ∀ u : Int, Int32.toInt (q1.1 19 s) = u → (((o = 11 → q1.1 19 s = 0) ∧ (o = 12 → q1.1 19 s = 1)) ↔ u = z) := by
      intro u hu
      rcases ho with ⟨ho, hz⟩ | ⟨ho, hz⟩
      · subst ho hz
        exact ⟨fun w => by rw [← hu, w.1 rfl]; decide, fun w => ⟨fun _ => Int32.toInt_inj.mp (hu.trans (w.trans d0.symm)), fun w2 => absurd w2 (by decide)⟩⟩
      · subst ho hz
        exact ⟨fun w => by rw [← hu, w.2 rfl]; decide, fun w => ⟨fun w2 => absurd w2 (by decide), fun _ => Int32.toInt_inj.mp (hu.trans (w.trans d1.symm))⟩⟩
    have hoo : o = 11 ∨ o = 12 := by
      rcases ho with ho | ho
      · exact Or.inl ho.1
      · exact Or.inr ho.1
    refine vo_leap n3 q1 y5 (y6 + 1) x7 y8 o a s hoo g5 (by omega) (fun w1 w2 => ?_) (fun w1 w2 => ?_)
    · have ez : v = z := (hz v g19).mp ⟨w1, w2⟩
      exact hk v (vL_y hv ez) n3 q1 _ _ _ (c1 + 1) F1 g5 ha t8 (by omega) g19
    · have ez : ¬ v = z := fun w => by
        have x := (hz v g19).mpr w
        rcases hoo with y | y
        · exact w1 y (x.1 y)
        · exact w2 y (x.2 y)
      refine ihy q1 n3 (y5 - 1 : Int32) (y6 + 1) (y8 + 1) s (c1 + 1) ((voC_fr F1).trans eC) t5 t6 t8 (by omega) (by omega) (by omega) h181 A1 (fun w hw n4 q4 z5 z6 z8 c4 F4 k5 k6 k8 kc k19 => ?_) (fun hw n4 q4 z5 z6 z8 F4 => hf ((vL_o hv ez).trans hw) n4 q4 z5 z6 z8 (voFx.of F1 F4 (Nat.le_refl _)))
      exact hk w ((vL_o hv ez).trans hw) n4 q4 z5 z6 z8 c4 (F1.t F4 (Nat.le_refl _)) k5 k6 k8 kc k19
/-- the whole: an expression's value, or 0 and the fault told -/
theorem voTop (A : Nat → Int) (p2 p3 : Int32) (C : Nat → Int32) {a b d k : Nat} {f : VF} (hcd : Cd C 17 a b d k f) (hd : d ≤ 63) (q : dK) (eC : q.1 31 = C) (h2 : Int32.toInt p2 = (a : Int)) (h3 : Int32.toInt p3 = (b : Int)) (hb : b ≤ 400) (hA : ∀ k : Nat, k < 17 → Int32.toInt (q.1 23 k) = A k) : dAll (zX2_valueOf_s18_s25_s23 q p2 p3) (fun o => (∀ j k : Nat, ¬ j = 19 → ¬ (j = 18 ∧ k = 1) → o.2.1 j k = q.1 j k) ∧ o.2.2 = q.2 ∧ ((∃ v : Int, f A = some v ∧ Int32.toInt o.1 = v ∧ o.2.1 18 1 = 0) ∨ (f A = none ∧ o.1 = 0 ∧ ¬ o.2.1 18 1 = 0))) := by
  have d0 : Int32.toInt 0 = 0 := by decide
  unfold zX2_valueOf_s18_s25_s23
  refine dA_L (fun q1 e1 => dA_L (fun q2 e2 =>  ?_ ))
  have F : ∀ j k : Nat, ¬ j = 19 → ¬ (j = 18 ∧ k = 1) → q2.1 j k = q.1 j k := fun j k h19 h18 => by rw [e2, cui_o h19, e1, cui_x h18]
  have F2 : q2.2 = q.2 := by rw [e2, e1]; rfl
  have hl := hcd.lt
  have h18 : q2.1 18 1 = 0 := by rw [e2, cui_o (by decide), e1, cui_e]
  have hm : Int32.toInt (mnI p3 400) = (b : Int) := by
    have d400 : Int32.toInt 400 = 400 := by decide
    have z := mn_le (a := p3) (b := 400)
    omega
  -- the end: nothing more to read
  have hend : ∀ (n' : Nat) (q' : dK) (y5 y6 x7 y8 : Int32), Int32.toInt x7 ≤ Int32.toInt y6 → (∀ j k : Nat, ¬ (j = 18 ∧ k = 1) → ¬ j = 19 → q'.1 j k = q2.1 j k) → q'.2 = q2.2 → ∀ v : Int, f A = some v → q'.1 18 1 = 0 → Int32.toInt (q'.1 19 0) = v → dAll (voLp n' q' y5 y6 x7 y8) (fun o => (∀ j k : Nat, ¬ j = 19 → ¬ (j = 18 ∧ k = 1) → o.2.1 j k = q.1 j k) ∧ o.2.2 = q.2 ∧ ((∃ v : Int, f A = some v ∧ Int32.toInt o.1 = v ∧ o.2.1 18 1 = 0) ∨ (f A = none ∧ o.1 = 0 ∧ ¬ o.2.1 18 1 = 0))) := by
    intro n' q' y5 y6 x7 y8 hle g1 g2 v hv g18 g19
    cases n' with
    | zero => exact voLp_0 q' y5 y6 x7 y8
    | succ n' =>
      rw [voLp_s]
      have h3 : dAll (zX2_valueOf_s18_s25_s23_328 q') (fun o => (∀ j k : Nat, ¬ j = 19 → ¬ (j = 18 ∧ k = 1) → o.2.1 j k = q.1 j k) ∧ o.2.2 = q.2 ∧ ((∃ v : Int, f A = some v ∧ Int32.toInt o.1 = v ∧ o.2.1 18 1 = 0) ∨ (f A = none ∧ o.1 = 0 ∧ ¬ o.2.1 18 1 = 0))) := by
        unfold zX2_valueOf_s18_s25_s23_328 zX2_valueOf_s18_s25_s23_345
        exact dA_if (fun _ => dA_some ⟨fun j k w1 w2 => (g1 j k w2 w1).trans (F j k w1 w2), g2.trans F2, Or.inl ⟨v, hv, g19, g18⟩⟩) (fun c => absurd g18 c)
      unfold zX2_valueOf_s18_s25_s23_32b
      exact dA_le (fun _ => h3) (fun _ => dA_le (fun _ => h3) (fun c => by omega))
  refine voLp_T A _ b hm (by omega) C hcd q2 dF 0 p2 p2 0 a ((funext (fun k => F 31 k (by omega) (by omega))).trans eC) d0 h2 h2 (Nat.le_refl _) (Nat.le_refl _) (by omega) h18 (fun k hk => by rw [F 23 k (by omega) (by omega)]; exact hA k hk) (fun v hv n' q' y5 y6 y8 c' G1 g5 g6 g8 gc g19 => ?_) (fun hv n' q' y5 y6 y8 G1 => ?_)
  · exact hend n' q' y5 y6 _ y8 (by rw [g6, hm]; omega) (fun j k w1 w2 => G1.1 j k (fun z => w2 z.1)) G1.2 v hv (by rw [G1.1 18 1 (by omega)]; exact h18) g19
  · refine dA_mono (voLp_f n' q' y5 y6 _ y8 G1.2.2) (fun o w => ?_)
    have e := w.2
    refine ⟨fun j k w1 w2 => ?_, ?_, Or.inr ⟨hv, w.1, ?_⟩⟩
    · rw [e, G1.1 j k (fun z => w1 z.1) w2]; exact F j k w1 w2
    · rw [e, G1.2.1]; exact F2
    · rw [e]; exact G1.2.2
/-- no code: 1 -/
theorem voEmp (p2 p3 : Int32) (q : dK) (h : Int32.toInt p3 ≤ Int32.toInt p2) : dAll (zX2_valueOf_s18_s25_s23 q p2 p3) (fun o => (∀ j k : Nat, ¬ j = 19 → ¬ (j = 18 ∧ k = 1) → o.2.1 j k = q.1 j k) ∧ o.2.2 = q.2 ∧ o.1 = 1 ∧ o.2.1 18 1 = 0) := by
  unfold zX2_valueOf_s18_s25_s23
  refine dA_L (fun q1 e1 => dA_L (fun q2 e2 =>  ?_ ))
  have F : ∀ j k : Nat, ¬ j = 19 → ¬ (j = 18 ∧ k = 1) → q2.1 j k = q.1 j k := fun j k h19 h18 => by rw [e2, cui_o h19, e1, cui_x h18]
  have F2 : q2.2 = q.2 := by rw [e2, e1]; rfl
  have h18 : q2.1 18 1 = 0 := by rw [e2, cui_o (by decide), e1, cui_e]
  have h19 : q2.1 19 0 = 1 := by rw [e2, cui_e]
  have key : ∀ (n' : Nat) (x7 : Int32), Int32.toInt x7 ≤ Int32.toInt p2 → dAll (voLp n' q2 0 p2 x7 p2) (fun o => (∀ j k : Nat, ¬ j = 19 → ¬ (j = 18 ∧ k = 1) → o.2.1 j k = q.1 j k) ∧ o.2.2 = q.2 ∧ o.1 = 1 ∧ o.2.1 18 1 = 0) := by
    intro n' x7 hle
    cases n' with
    | zero => exact voLp_0 q2 0 p2 x7 p2
    | succ n' =>
      rw [voLp_s]
      unfold zX2_valueOf_s18_s25_s23_32b
      refine dA_le (fun _ => ?_) (fun c => by omega)
      unfold zX2_valueOf_s18_s25_s23_328 zX2_valueOf_s18_s25_s23_345
      exact dA_if (fun _ => dA_some ⟨F, F2, h19, h18⟩) (fun c => absurd h18 c)
  exact key dF _ (by
    have z := mn_le (a := p3) (b := 400)
    omega)

