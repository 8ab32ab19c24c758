/-! a law asked -/
def clI (v : Int) : Int := if v < 0 then 0 else if 99 < v then 99 else v
/-- what the clauses tell, one behind another: K: their kinds, H: which hold, S: their sums -/
def TL (hd : Int) (K : Nat → Int) (H : Nat → Bool) (S : Nat → Option Int) (x : Int) : Nat → Int
  | 0 => x
  | i + 1 => if K i + 1 = hd ∧ H i = true then ((S i).map clI).getD (TL hd K H S x i) else TL hd K H S x i
theorem clI_b (v : Int) : 0 ≤ clI v ∧ clI v ≤ 99 := by
  unfold clI
  by_cases c : v < 0
  · rw [if_pos c]; omega
  · rw [if_neg c]
    by_cases d : 99 < v
    · rw [if_pos d]; omega
    · rw [if_neg d]; omega
theorem TL_b {hd : Int} {K : Nat → Int} {H : Nat → Bool} {S : Nat → Option Int} {x : Int} (hx : -2147483648 ≤ x ∧ x ≤ 2147483647) : ∀ i : Nat, -2147483648 ≤ TL hd K H S x i ∧ TL hd K H S x i ≤ 2147483647 := by
  intro i
  induction i with
  | zero => exact hx
  | succ i ih =>
    show -2147483648 ≤ (if K i + 1 = hd ∧ H i = true then ((S i).map clI).getD (TL hd K H S x i) else TL hd K H S x i) ∧ (if K i + 1 = hd ∧ H i = true then ((S i).map clI).getD (TL hd K H S x i) else TL hd K H S x i) ≤ 2147483647
    by_cases c : K i + 1 = hd ∧ H i = true
    · rw [if_pos c]
      cases hs : S i with
      | none => exact ih
      | some v =>
        have := clI_b v
        show -2147483648 ≤ clI v ∧ clI v ≤ 2147483647
        omega
    · rw [if_neg c]; exact ih
section X9
variable {cs vs A : Nat → Int} {g0 T : Nat} {q0 : dS}
/-- the end of a clause -/
theorem t_145 {k60 : dS → Int32 → Int64 → Option (Int32 × dS)} {Q : Int32 × dS → Prop} (hg : g0 + T ≤ 2800) (q : dS) (hd : Int32) (x3 : Int64) (x5 : Int32) (x6 : Int64) (x8 y0 : Int32) {w : Nat} {kd : Int} {H : Bool} {S : Option Int} (hE : EG q0 g0 T q w) (h5 : Int32.toInt x5 = kd + 1) (hH : (¬ y0 = 0 ∧ q.1 0 24 = 0) ↔ H = true) (hS : (x8 = 0 → S = some (Int64.toInt x6)) ∧ (¬ x8 = 0 → S = none)) (hk : ∀ (q2 : dS) (x : Int64), ER q0 q2 → Int32.toInt (q2.1 0 22) = ((g0 + (w + 1) : Nat) : Int) → Int64.toInt x = (if kd + 1 = Int32.toInt hd ∧ H = true then (S.map clI).getD (Int64.toInt x3) else Int64.toInt x3) → dAll (k60 q2 hd x) Q) : dAll (zX10_tells_145 k60 q hd x3 x5 x6 x8 y0) Q := by
  have d1 : Int32.toInt 1 = 1 := by decide
  have D0 : Int32.toInt 0 = 0 := by decide
  have lm1 : Int32.toInt (-1) = -1 := by decide
  have L0 : Int64.toInt 0 = 0 := by decide
  have L99 : Int64.toInt 99 = 99 := by decide
  obtain ⟨E1, E2, E3⟩ := hE
  have h199 : ∀ x : Int64, Int64.toInt x = (if kd + 1 = Int32.toInt hd ∧ H = true then (S.map clI).getD (Int64.toInt x3) else Int64.toInt x3) → dAll (zX10_tells_199 k60 q hd x) Q := by
    intro x hx
    unfold zX10_tells_199
    refine dA_L (fun q1 e1 => hk q1 x ?_ ?_ hx)
    · rw [e1]; exact E1.g (Or.inl rfl)
    · rw [e1, dui_e, ti_add E3 d1 (by omega) (by omega)]; omega
  have hno : ¬ (kd + 1 = Int32.toInt hd ∧ H = true) → dAll (zX10_tells_199 k60 q hd x3) Q := fun hn => h199 x3 (by rw [if_neg hn])
  unfold zX10_tells_145 zX10_tells_198
  refine dA_eq (fun _ c => dA_if (fun cy => hno (fun z => (hH.mpr z.2).1 cy)) (fun cy => dA_if (fun c24 => ?_) (fun c24 => hno (fun z => c24 (hH.mpr z.2).2)))) (fun _ c => hno (fun z => c (by omega)))
  have hh : kd + 1 = Int32.toInt hd ∧ H = true := ⟨by omega, hH.mp ⟨cy, c24⟩⟩
  refine dA_if (fun c8 => ?_) (fun c8 => h199 x3 (by rw [if_pos hh, hS.2 c8]; rfl))
  have hs := hS.1 c8
  have hcl : ∀ x : Int64, Int64.toInt x = clI (Int64.toInt x6) → dAll (zX10_tells_199 k60 q hd x) Q := fun x hx => h199 x (by rw [if_pos hh, hs, hx]; rfl)
  refine dA_le (fun c1 => dA_le (fun c2 => hcl x6 ?_) (fun c2 => hcl 99 ?_)) (fun c1 => hcl 0 ?_)
  · have u1 : ¬ Int64.toInt x6 < 0 := by
      rcases lgc x6 0 with ⟨w1, w2⟩ | ⟨w1, w2⟩ | ⟨w1, w2⟩
      · rw [w2] at c1; omega
      · omega
      · omega
    have u2 : ¬ 99 < Int64.toInt x6 := by
      rcases lgc x6 99 with ⟨w1, w2⟩ | ⟨w1, w2⟩ | ⟨w1, w2⟩
      · omega
      · omega
      · rw [w2] at c2; omega
    unfold clI
    rw [if_neg u1, if_neg u2]
  · have u1 : ¬ Int64.toInt x6 < 0 := by
      rcases lgc x6 0 with ⟨w1, w2⟩ | ⟨w1, w2⟩ | ⟨w1, w2⟩
      · rw [w2] at c1; omega
      · omega
      · omega
    have u2 : 99 < Int64.toInt x6 := by
      rcases lgc x6 99 with ⟨w1, w2⟩ | ⟨w1, w2⟩ | ⟨w1, w2⟩
      · rw [w2] at c2; omega
      · rw [w2] at c2; omega
      · omega
    unfold clI
    rw [if_neg u1, if_pos u2]; exact L99
  · have u1 : Int64.toInt x6 < 0 := by
      rcases lgc x6 0 with ⟨w1, w2⟩ | ⟨w1, w2⟩ | ⟨w1, w2⟩
      · omega
      · rw [w2] at c1; omega
      · rw [w2] at c1; omega
    unfold clI
    rw [if_pos u1]; exact L0
/-- the test, if there is one -/
theorem t_111 (hK : EK 0 cs vs A g0 T q0) {k60 : dS → Int32 → Int64 → Option (Int32 × dS)} {Q : Int32 × dS → Prop} (q : dS) (hd : Int32) (x3 : Int64) (x5 : Int32) (y0 : Int64) {v w : Nat} {kd : Int} {g : VF} {H : Bool} {S : Option Int} (hE : EG q0 g0 T q v) (h5 : Int32.toInt x5 = kd + 1) (ht : (cs v = 4 ∧ Sp 0 cs vs 6 (v + 1) w g ∧ ex6 cs w) ∨ (¬ cs v = 4 ∧ w = v)) (hH : H = true ↔ (¬ cs v = 4 ∨ g A = some 1)) (hS : (q.1 0 24 = 0 → S = some (Int64.toInt y0)) ∧ (¬ q.1 0 24 = 0 → S = none)) (hk : ∀ (q2 : dS) (x : Int64), ER q0 q2 → Int32.toInt (q2.1 0 22) = ((g0 + (w + 1) : Nat) : Int) → Int64.toInt x = (if kd + 1 = Int32.toInt hd ∧ H = true then (S.map clI).getD (Int64.toInt x3) else Int64.toInt x3) → dAll (k60 q2 hd x) Q) : dAll (zX10_tells_111 k60 q hd x3 x5 y0) Q := by
  have D1 : Int32.toInt 1 = 1 := by decide
  have D0 : Int32.toInt 0 = 0 := by decide
  unfold zX10_tells_111 zX10_tells_140
  refine dA_L (fun q1 e1 => ?_)
  have E1 : EG q0 g0 T q1 v := by
    rw [e1]
    exact ⟨hE.1.g (Or.inr rfl), hE.2.1, by rw [dui_n (by decide)]; exact hE.2.2⟩
  have b1 : q1.1 0 24 = 0 := by rw [e1, dui_e]
  refine dA_B (e_pass hK q1 4 E1 (by decide)) (fun r2 q4 z => ?_)
  have z2 : (r2 = 1 ∧ cs v = Int32.toInt 4 ∧ EG q0 g0 T q4 (v + 1) ∧ q4.1 0 24 = q1.1 0 24) ∨ (r2 = 0 ∧ ¬ cs v = Int32.toInt 4 ∧ q4 = q1) := z
  rw [show Int32.toInt 4 = 4 by decide] at z2
  rcases z2 with ⟨z1, z2, z3, z4⟩ | ⟨z1, z2, z3⟩
  · refine dA_if (fun c => absurd (z1.symm.trans c) (by decide)) (fun _ => ?_)
    rcases ht with ⟨t1, t2, t3⟩ | ⟨t1, -⟩
    · refine dA_B (e_test hK t2 t3 q4 1 z3) (fun r5 q7 y => ?_)
      obtain ⟨y1, y2, y3⟩ := y
      replace y1 : EG q0 g0 T q7 w := y1
      replace y2 : r5 = 0 ∨ r5 = 1 := y2
      replace y3 : RV A 1 (q4.1 0 24) (q7.1 0 24) g (Int32.toInt r5) := y3
      have y4 := y3.2.2 (by decide) (z4.trans b1)
      refine dA_if (fun c => t_145 hK.1 q7 hd x3 x5 y0 _ 0 y1 h5 ⟨fun a => absurd rfl a.1, fun a => ?_⟩ hS hk) (fun c => t_145 hK.1 q7 hd x3 x5 y0 _ 1 y1 h5 ⟨fun a => hH.mpr (Or.inr ?_), fun a => ?_⟩ hS hk)
      · rcases hH.mp a with a | a
        · exact absurd z2 a
        · rcases y4 with ⟨e1, -⟩ | ⟨e1, -⟩
          · rw [e1, c, D0] at a
            exact absurd (Option.some.inj a) (by decide)
          · rw [e1] at a; cases a
      · rcases y4 with ⟨e1, -⟩ | ⟨e1, e2⟩
        · rcases y2 with y2 | y2
          · exact absurd y2 c
          · rw [e1, y2, D1]
        · exact absurd a.2 e2
      · rcases hH.mp a with a | a
        · exact absurd z2 a
        · rcases y4 with ⟨e1, e2⟩ | ⟨e1, -⟩
          · exact ⟨by decide, e2⟩
          · rw [e1] at a; cases a
    · exact absurd z2 t1
  · subst z3
    refine dA_if (fun _ => ?_) (fun c => absurd z1 c)
    rcases ht with ⟨t1, -⟩ | ⟨-, t2⟩
    · exact absurd t1 z2
    · subst t2
      exact t_145 hK.1 q4 hd x3 x5 y0 _ 1 E1 h5 ⟨fun _ => hH.mpr (Or.inl z2), fun _ => ⟨by decide, b1⟩⟩ hS hk
/-- one clause -/
theorem t_one (hK : EK 0 cs vs A g0 T q0) {k60 : dS → Int32 → Int64 → Option (Int32 × dS)} {Q : Int32 × dS → Prop} (q : dS) (hd : Int32) (x3 : Int64) {t u w : Nat} {kd : Int} {f g : VF} {H : Bool} {S : Option Int} (hE : EG q0 g0 T q t) (hkd : 0 ≤ kd ∧ kd < 3 ∧ cs t = kd + 1) (hs : (kd = 0 ∧ Sp 0 cs vs 2 (t + 1) u f ∧ ex2 cs u ∧ S = f A) ∨ (¬ kd = 0 ∧ u = t + 1 ∧ S = some 1)) (ht : (cs u = 4 ∧ Sp 0 cs vs 6 (u + 1) w g ∧ ex6 cs w) ∨ (¬ cs u = 4 ∧ w = u)) (hH : H = true ↔ (¬ cs u = 4 ∨ g A = some 1)) (hk : ∀ (q2 : dS) (x : Int64), ER q0 q2 → Int32.toInt (q2.1 0 22) = ((g0 + (w + 1) : Nat) : Int) → Int64.toInt x = (if kd + 1 = Int32.toInt hd ∧ H = true then (S.map clI).getD (Int64.toInt x3) else Int64.toInt x3) → dAll (k60 q2 hd x) Q) : dAll (zX10_tells_60b k60 q hd x3) Q := by
  have D1 : Int32.toInt 1 = 1 := by decide
  have L1 : Int64.toInt 1 = 1 := by decide
  have ht1 := e_lt hK hE.2.1 (by omega)
  have e22 := hE.2.2
  have e23 : Int32.toInt (q.1 0 23) = ((g0 + T : Nat) : Int) := by rw [hE.1.1 0 23 (by decide)]; exact hK.2.2.2.1
  unfold zX10_tells_60b
  refine dA_le (fun c => by omega) (fun _ => dA_B (e_code hK q hE _ rfl) (fun r1 q3 z => dA_L (fun q4 e4 => dA_L (fun q5 e5 => ?_))))
  obtain ⟨z1, z2⟩ := z
  replace z1 : q3 = q := z1
  replace z2 : Int32.toInt r1 = cs t := z2
  subst z1
  have E4 : EG q0 g0 T q4 t := by
    rw [e4]
    exact ⟨hE.1.g (Or.inr rfl), hE.2.1, by rw [dui_n (by decide)]; exact hE.2.2⟩
  have b4 : q4.1 0 24 = 0 := by rw [e4, dui_e]
  have k5 := e_go hK q4 E4 ht1
  rw [← e5] at k5
  have b5 : q5.1 0 24 = 0 := k5.2.trans b4
  rcases hs with ⟨s1, s2, s3, s4⟩ | ⟨s1, s2, s3⟩
  · refine dA_eq (fun _ _ => dA_B (e_sum hK s2 s3 q5 1 k5.1) (fun r6 q8 y => ?_)) (fun _ c => by omega)
    obtain ⟨y1, y2⟩ := y
    replace y1 : EG q0 g0 T q8 u := y1
    replace y2 : RV A 1 (q5.1 0 24) (q8.1 0 24) f (Int64.toInt r6) := y2
    have y3 := y2.2.2 (by decide) b5
    refine t_111 hK q8 hd x3 r1 r6 y1 (by omega) ht hH ⟨fun c => ?_, fun c => ?_⟩ hk
    · rcases y3 with ⟨a, -⟩ | ⟨-, a⟩
      · rw [s4]; exact a
      · exact absurd c a
    · rcases y3 with ⟨-, a⟩ | ⟨a, -⟩
      · exact absurd a c
      · rw [s4]; exact a
  · subst s2
    exact dA_eq (fun _ c => by omega) (fun _ _ => t_111 hK q5 hd x3 r1 1 k5.1 (by omega) ht hH ⟨fun _ => by rw [s3, L1], fun c => absurd b5 c⟩ hk)
end X9
