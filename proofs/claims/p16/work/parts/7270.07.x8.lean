/-- a whole text: clause by clause, to its end at token T; L: how long the code is -/
def CLS (oo W : Int) (cs vs : Nat → Int) (K Tm S1 S2 S3 C : Nat → Int32) (m T L : Nat) : Prop := ∃ ts ws fa fb fc : Nat → Nat, ts 0 = 0 ∧ 1 ≤ m ∧ m ≤ 12 ∧ ∀ i : Nat, i < m → Int32.toInt (S1 i) = ((fa i : Nat) : Int) ∧ Int32.toInt (S2 i) = ((fb i : Nat) : Int) ∧ Int32.toInt (S3 i) = ((fc i : Nat) : Int) ∧ fa i ≤ fb i ∧ fb i ≤ fc i ∧ fc i ≤ L ∧ CLR oo W cs vs C (Int32.toInt (K i)) (Int32.toInt (Tm i)) (fa i) (fb i) (fc i) (ts i) (ws i) ∧ ws i ≤ T ∧ ((i + 1 < m ∧ cs (ws i) = 159 ∧ ts (i + 1) = ws i + 1) ∨ (i + 1 = m ∧ ws i = T))
theorem CLR.fr {oo W : Int} {cs vs : Nat → Int} {C C2 : Nat → Int32} {kd tm : Int} {a b c t w : Nat} (h : CLR oo W cs vs C kd tm a b c t w) (hab : a ≤ b) (hbc : b ≤ c) (hC : ∀ i : Nat, i < c → C2 i = C i) : CLR oo W cs vs C2 kd tm a b c t w := by
  obtain ⟨u, v, f, g, h1, h2, h3, h4⟩ := h
  refine ⟨u, v, f, g, h1, ?_, h3, ?_⟩
  · rcases h2 with ⟨k1, k2, k3, k4⟩ | k
    · exact Or.inl ⟨k1, k2, k3, k4.fr (fun i _ i2 => hC i (by omega))⟩
    · exact Or.inr k
  · rcases h4 with ⟨k1, k2, k3, k4⟩ | k
    · exact Or.inl ⟨k1, k2, k3, k4.fr (fun i _ i2 => hC i i2)⟩
    · exact Or.inr k
/-- the first j clauses -/
def CLp (oo W : Int) (cs vs : Nat → Int) (o : dK) (j t L T : Nat) (ts ws fa fb fc : Nat → Nat) : Prop := ts 0 = 0 ∧ ts j = t ∧ ∀ i : Nat, i < j → Int32.toInt (o.1 28 i) = ((fa i : Nat) : Int) ∧ Int32.toInt (o.1 29 i) = ((fb i : Nat) : Int) ∧ Int32.toInt (o.1 30 i) = ((fc i : Nat) : Int) ∧ fa i ≤ fb i ∧ fb i ≤ fc i ∧ fc i ≤ L ∧ CLR oo W cs vs (o.1 31) (Int32.toInt (o.1 26 i)) (Int32.toInt (o.1 27 i)) (fa i) (fb i) (fc i) (ts i) (ws i) ∧ ws i ≤ T ∧ cs (ws i) = 159 ∧ ts (i + 1) = ws i + 1
section X8
variable {B : Nat → Int} {n T : Nat} {ps es : Nat → Nat} {cs vs : Nat → Int} {oo W : Int}
theorem x_exp5 (hK : TKS B n T ps es cs vs) (q : dK) (p1 : Int32) {t a : Nat} {l : Int} (h : XS B n T ps es oo q t a 0 l) (hc : tkC (Int32.toInt p1) = 3) (h0 : 0 ≤ Int32.toInt p1) : dAll (zX4_expectSign_s24 q p1) (fun o => ((∃ f : Int, CF o f) ∨ (cs t = 100 + Int32.toInt p1 ∧ XS B n T ps es oo o (t + 1) a 0 l ∧ ∀ i : Nat, o.1 31 i = q.1 31 i)) ∧ R5 q o) := by
  refine dA_mono (dA_and (x_exp hK q p1 h hc h0) (dA_of (ok_X4_expectSign_s24 q p1 h.1.1 h.1.2.1))) (fun o w => ⟨w.1, ?_⟩)
  have w4 := w.2.2
  exact ⟨w4.row 26 (by decide) (by decide), w4.row 27 (by decide) (by decide), w4.row 28 (by decide) (by decide), w4.row 29 (by decide) (by decide), w4.row 30 (by decide) (by decide), w4.1 25 6 (by decide) (by decide)⟩
theorem x_r60 (hK : TKS B n T ps es cs vs) (hW : (oo = 0 ∧ W = 9) ∨ (oo = 1 ∧ W = 17)) : ∀ (a j : Nat) (q : dK) (x5 : Int32) (t L : Nat) (l : Int) (ts ws fa fb fc : Nat → Nat), Int32.toInt x5 = (j : Int) → j ≤ 12 → XS B n T ps es oo q t L 0 l → L ≤ t → Int32.toInt (q.1 25 6) = (j : Int) → CLp oo W cs vs q j t L T ts ws fa fb fc → dAll (zX4_read_s24_s46_s25_60 a q x5) (fun o => Int32.toInt o.1 = -1 → ∃ m L : Nat, L ≤ 400 ∧ Int32.toInt (o.2.1 25 6) = (m : Int) ∧ Int32.toInt (o.2.1 25 7) = (L : Int) ∧ CLS oo W cs vs (o.2.1 26) (o.2.1 27) (o.2.1 28) (o.2.1 29) (o.2.1 30) (o.2.1 31) m T L) := by
  have d12 : Int32.toInt 12 = 12 := by decide
  have d1 : Int32.toInt 1 = 1 := by decide
  have d0 : Int32.toInt 0 = 0 := by decide
  intro a
  induction a with
  | zero => intro j q x5 t L l ts ws fa fb fc _ _ _ _ _ _ o e; cases e
  | succ a ih =>
    intro j q x5 t L l ts ws fa fb fc h5 hj h hL hm hp
    show dAll (zX4_read_s24_s46_s25_60b (fun q x5 => zX4_read_s24_s46_s25_60 a q x5) q x5) _
    have hT4 := hK.2.1
    have hT := h.2.2.1.2.1
    unfold zX4_read_s24_s46_s25_60b
    refine dA_lt (fun c => by omega) (fun _ => dA_if (fun _ => dA_eq (fun _ c => ?_) (fun _ c => ?_)) (fun c => absurd h.2.2.1.1 c))
    · refine dA_V (c_fail q h.2.2.1) (fun q6 w => dA_mono (f_93 q6 x5 w a) (fun o z e => ?_))
      exact absurd (z.symm.trans e) w.2
    · refine dA_V (x_clause hK hW q h hL hm (by omega)) (fun q3 R => ?_)
      rcases R with ⟨f, hcf⟩ | ⟨w, b, c2, l2, kd, tm, k1, k2, k3, k4, k5, k6, k7, k8⟩
      · exact dA_mono (f_93 q3 x5 hcf a) (fun o z e => absurd (z.symm.trans e) hcf.2)
      · obtain ⟨p1, p2, p3⟩ := hp
        obtain ⟨j1, j2, j3, j4, j5, j6, j7⟩ := k6
        have hwT := k1.2.2.1.2.1
        have e25 : Int32.toInt (q3.1 25 7) = (c2 : Int) := k1.2.2.2.1
        obtain ⟨n1, n2, -⟩ := tk_num hK k1.2.2.1
        -- the clauses so far
        have hall : ∀ (o : dK), o.1 26 = q3.1 26 → o.1 27 = q3.1 27 → o.1 28 = q3.1 28 → o.1 29 = q3.1 29 → o.1 30 = q3.1 30 → (∀ i : Nat, o.1 31 i = q3.1 31 i) → ∀ i : Nat, i < j + 1 → Int32.toInt (o.1 28 i) = ((ext fa j L i : Nat) : Int) ∧ Int32.toInt (o.1 29 i) = ((ext fb j b i : Nat) : Int) ∧ Int32.toInt (o.1 30 i) = ((ext fc j c2 i : Nat) : Int) ∧ ext fa j L i ≤ ext fb j b i ∧ ext fb j b i ≤ ext fc j c2 i ∧ ext fc j c2 i ≤ c2 ∧ CLR oo W cs vs (o.1 31) (Int32.toInt (o.1 26 i)) (Int32.toInt (o.1 27 i)) (ext fa j L i) (ext fb j b i) (ext fc j c2 i) (ts i) (ext ws j w i) ∧ ext ws j w i ≤ T := by
          intro o o1 o2 o3 o4 o5 o6 i hi
          rw [o1, o2, o3, o4, o5]
          by_cases ci : i = j
          · subst ci
            rw [ext_e, ext_e, ext_e, ext_e, j2, j3, p2]
            exact ⟨j4, j5, j6, k3, k4, Nat.le_refl _, k8.fr k3 k4 (fun x _ => o6 x), hwT⟩
          · obtain ⟨y1, y2, y3, y4, y5, y6, y7, y8, -⟩ := p3 i (by omega)
            obtain ⟨i1, i2, i3, i4, i5⟩ := j7 i (by omega)
            rw [ext_n ci, ext_n ci, ext_n ci, ext_n ci, i1, i2, i3, i4, i5]
            exact ⟨y1, y2, y3, y4, y5, by omega, y7.fr y4 y5 (fun x hx => by rw [o6 x, k7 x (by omega)]), y8⟩
        unfold zX4_read_s24_s46_s25_93
        refine dA_if (fun _ => dA_eq (fun _ c4 => dA_some (fun _ => ?_)) (fun _ c4 => ?_)) (fun c => absurd k1.2.2.1.1 c)
        · have eT : w = T := n2.mp (by omega)
          refine ⟨j + 1, c2, by omega, j1, e25, ts, ext ws j w, ext fa j L, ext fb j b, ext fc j c2, p1, by omega, by omega, fun i hi => ?_⟩
          obtain ⟨y1, y2, y3, y4, y5, y6, y7, y8⟩ := hall q3 rfl rfl rfl rfl rfl (fun _ => rfl) i hi
          refine ⟨y1, y2, y3, y4, y5, y6, y7, y8, ?_⟩
          by_cases ci : i = j
          · subst ci
            rw [ext_e]
            exact Or.inr ⟨rfl, eT⟩
          · rw [ext_n ci]
            have z := (p3 i (by omega)).2.2.2.2.2.2.2.2
            exact Or.inl ⟨by omega, z.1, z.2⟩
        · unfold zX4_read_s24_s46_s25_110
          refine dA_V (x_exp5 hK q3 59 k1 (by decide) (by decide)) (fun q4 R => ?_)
          obtain ⟨R, r1, r2, r3, r4, r5, r6⟩ := R
          rcases R with ⟨f, hcf⟩ | ⟨z1, z2, z3⟩
          · exact dA_mono (f_60 q4 (x5 + 1) hcf a) (fun o z e => absurd (z.symm.trans e) hcf.2)
          · rw [show Int32.toInt 59 = 59 by decide] at z1
            refine ih (j + 1) q4 (x5 + 1) (w + 1) c2 l2 (ext ts (j + 1) (w + 1)) (ext ws j w) (ext fa j L) (ext fb j b) (ext fc j c2) (by rw [ti_add h5 d1 (by omega) (by omega)]; omega) (by omega) z2 (by omega) (by rw [r6]; exact j1) ⟨by rw [ext_n (by omega)]; exact p1, ext_e, fun i hi => ?_⟩
            obtain ⟨y1, y2, y3, y4, y5, y6, y7, y8⟩ := hall q4 r1 r2 r3 r4 r5 z3 i hi
            rw [ext_n (show ¬ i = j + 1 by omega)]
            refine ⟨y1, y2, y3, y4, y5, y6, y7, y8, ?_⟩
            by_cases ci : i = j
            · subst ci
              rw [ext_e, ext_e]
              exact ⟨z1, rfl⟩
            · rw [ext_n ci, ext_n (show ¬ i + 1 = j + 1 by omega)]
              exact (p3 i (by omega)).2.2.2.2.2.2.2.2
end X8
/-- a text read without a fault -/
theorem x_read {B : Nat → Int} {n T : Nat} {ps es : Nat → Nat} {cs vs : Nat → Int} {oo W : Int} (hK : TKS B n T ps es cs vs) (hW : (oo = 0 ∧ W = 9) ∨ (oo = 1 ∧ W = 17)) (q : dK) (hT : TC q) (p2 p3 : Int32) (h400 : n ≤ 400) (hp2 : Int32.toInt p2 = (n : Int)) (hp3 : Int32.toInt p3 = oo) (hB : ∀ i : Nat, Int32.toInt (q.1 46 i) = B i) : dAll (zX4_read_s24_s46_s25 q p2 p3) (fun o => Int32.toInt o.1 = -1 → ∃ m L : Nat, L ≤ 400 ∧ Int32.toInt (o.2.1 25 6) = (m : Int) ∧ Int32.toInt (o.2.1 25 7) = (L : Int) ∧ CLS oo W cs vs (o.2.1 26) (o.2.1 27) (o.2.1 28) (o.2.1 29) (o.2.1 30) (o.2.1 31) m T L) := by
  have d0 : Int32.toInt 0 = 0 := by decide
  have d1 : Int32.toInt 1 = 1 := by decide
  have d400 : Int32.toInt 400 = 400 := by decide
  unfold zX4_read_s24_s46_s25
  refine dA_L (fun a1 e1 => dA_L (fun a2 e2 => dA_G (fun _ => dA_L (fun a4 e4 => dA_L (fun a5 e5 => dA_G (fun _ => ?_))))))
  have h01 : oo = 0 ∨ oo = 1 := by
    rcases hW with w | w
    · exact Or.inl w.1
    · exact Or.inr w.1
  have hmn : Int32.toInt (mnI p2 400) = (n : Int) := by
    have z := mn_le (a := p2) (b := 400)
    omega
  have t5 : TC a5 := by
    rw [e5]; refine st_24_3 ?_ (by decide) (by decide)
    rw [e4]; refine st_24_2 ?_ (by omega) (by omega)
    rw [e2]; refine st_24_1 ?_ (by omega) (by omega)
    rw [e1]; exact st_24_0 hT (by decide) (by decide)
  have hcl : dAll (zX7_clear_s25 a5) (fun o => CS a5 o ∧ o.1 25 6 = 0 ∧ o.1 25 7 = 0) := by
    unfold zX7_clear_s25
    refine dA_L (fun b1 f1 => dA_L (fun b2 f2 => dA_some ⟨by rw [f2, f1]; exact (CS.rf.i (by decide) (by decide)).i (by decide) (by decide), ?_, ?_⟩))
    · rw [f2, cui_n (by decide), f1, cui_e]
    · rw [f2, cui_e]
  refine dA_V (dA_and hcl (dA_of (ok_X7_clear_s25 a5 t5))) (fun a9 c9 => dA_L (fun a10 e10 => dA_L (fun a11 e11 => dA_L (fun a12 e12 => dA_L (fun a13 e13 => ?_)))))
  obtain ⟨⟨c9, c96, c97⟩, t9, -⟩ := c9
  have t13 : TC a13 := by
    rw [e13]; refine sa_24_10 ?_
    rw [e12]; refine st_24_9 ?_ (by decide) (by decide)
    rw [e11]; refine st_24_8 ?_ (by decide) (by decide)
    rw [e10]; exact st_24_6 t9 (by decide) (by decide)
  have h46 : ∀ i : Nat, a13.1 46 i = q.1 46 i := by
    intro i
    rw [e13, cui_o (by decide), e12, cui_o (by decide), e11, cui_o (by decide), e10, cui_o (by decide), c9.2, e5, cui_o (by decide), e4, cui_o (by decide), e2, cui_o (by decide), e1, cui_o (by decide)]
  have f0 : a13.1 24 0 = 1 := by rw [e13, cui_n (by decide), e12, cui_n (by decide), e11, cui_n (by decide), e10, cui_n (by decide), c9.1, e5, cui_n (by decide), e4, cui_n (by decide), e2, cui_n (by decide), e1, cui_e]
  have f1 : a13.1 24 1 = mnI p2 400 := by rw [e13, cui_n (by decide), e12, cui_n (by decide), e11, cui_n (by decide), e10, cui_n (by decide), c9.1, e5, cui_n (by decide), e4, cui_n (by decide), e2, cui_e]
  have f2 : a13.1 24 2 = p3 := by rw [e13, cui_n (by decide), e12, cui_n (by decide), e11, cui_n (by decide), e10, cui_n (by decide), c9.1, e5, cui_n (by decide), e4, cui_e]
  have f3 : a13.1 24 3 = 1 := by rw [e13, cui_n (by decide), e12, cui_n (by decide), e11, cui_n (by decide), e10, cui_n (by decide), c9.1, e5, cui_e]
  have f6 : a13.1 24 6 = 0 := by rw [e13, cui_n (by decide), e12, cui_n (by decide), e11, cui_n (by decide), e10, cui_e]
  have f8 : a13.1 24 8 = 0 := by rw [e13, cui_n (by decide), e12, cui_n (by decide), e11, cui_e]
  have f9 : a13.1 24 9 = 0 := by rw [e13, cui_n (by decide), e12, cui_e]
  have f10 : a13.1 24 10 = -1 := by rw [e13, cui_e]
  have s25 : ∀ k : Nat, a13.1 25 k = a9.1 25 k := fun k => by rw [e13, cui_o (by decide), e12, cui_o (by decide), e11, cui_o (by decide), e10, cui_o (by decide)]
  have hSC : SC B n oo a13 := ⟨fun i => by rw [h46]; exact hB i, by rw [f1]; exact hmn, by rw [f2]; exact hp3⟩
  have g0 : ¬ Int32.toInt (a13.1 24 0) = 0 := by rw [f0]; decide
  have g3 : ¬ Int32.toInt (a13.1 24 3) = 0 := by rw [f3]; decide
  refine dA_V (dA_and (c_step0 hK a13 hSC f10 f6 f8 f9) (dA_of (ok_X4_step_s24 a13 t13 g0))) (fun a16 v => ?_)
  obtain ⟨⟨v1, v2⟩, v3, v4⟩ := v
  rw [d0] at v2
  have hXS : XS B n T ps es oo a16 0 0 0 0 := ⟨⟨v3, by rw [v4.1 24 0 (by decide) (by decide)]; exact g0, by rw [v4.1 24 3 (by decide) (by decide)]; exact g3⟩, v1, v2, by rw [v4.1 25 7 (by decide) (by decide), s25, c97]; exact d0, by decide, by decide⟩
  exact x_r60 hK hW dF 0 a16 0 0 0 0 (fun _ => 0) (fun _ => 0) (fun _ => 0) (fun _ => 0) (fun _ => 0) d0 (by decide) hXS (Nat.le_refl _) (by rw [v4.1 25 6 (by decide) (by decide), s25, c96]; exact d0) ⟨rfl, rfl, fun i hi => absurd hi (Nat.not_lt_zero i)⟩

