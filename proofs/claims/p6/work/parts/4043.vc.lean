theorem KR.congr2 {f g : Nat → Int32} (hs : ∀ u : Nat, u < 6 → (f (33 + u)).toInt ≤ 400) (h : ∀ i : Nat, 31 ≤ i → i < 5640 → f i = g i) (hf : KR f) : KR g := by
  have e31 := h 31 (by omega) (by omega)
  have e32 := h 32 (by omega) (by omega)
  refine ⟨by rw [← e31, ← e32]; exact hf.1, fun u hu hu2 => ?_⟩
  have h2 := hf.2 u hu (by rw [e31]; exact hu2)
  have eE : lawE g u = lawE f u := by unfold lawE; rw [h (33 + u) (by omega) (by omega)]
  have hE : lawE f u ≤ 400 * u + 400 := by have := hs u hu; unfold lawE; omega
  unfold LawOk at *
  rw [eE]
  have hC : ∀ a : Nat, lawC g (lawE f u) (0 + a) = lawC f (lawE f u) a := by
    intro a
    rw [Nat.zero_add]
    unfold lawC
    by_cases z : a < lawE f u
    · rw [if_pos z, if_pos z, h (40 + a) (by omega) (by omega)]
    · rw [if_neg z, if_neg z]
  have hV : ∀ a : Nat, ¬ lawC f (lawE f u) a = 0 → lawV g (0 + a) = lawV f a := by
    intro a ha
    have := lawC_in ha
    rw [Nat.zero_add]
    unfold lawV
    rw [h (2840 + a) (by omega) (by omega)]
  have h3 := gSeq_sh (s := 0) (op' := fun i' => lawC g (lawE f u) i' = 159) (X' := gClause (lawC g (lawE f u)) (lawV g)) (fun a => c_sh hC 159 a) (fun a b => gClause_sh hC hV) h2
  rw [Nat.zero_add, Nat.zero_add] at h3
  exact h3
theorem ok_image (q : dS) (p1 : Int32) (hT : TS q) : dOk (zX10_image q p1) (fun (o : Int32 × dS) => (TS o.2) ∧ (dFr [1, 3, 4] [0] q o.2)) := by
  unfold zX10_image
  refine dOk_V (ok_lies p1 0 1) (fun r hr => ?_)
  have hr : (Int32.toInt r = 1 ∧ (0 : Int) ≤ Int32.toInt p1 ∧ Int32.toInt p1 ≤ 1) ∨ (Int32.toInt r = 0 ∧ (Int32.toInt p1 < 0 ∨ 1 < Int32.toInt p1)) := hr
  refine dOk_eq (A := r.toInt) (B := 0) rfl (by decide) (fun _ _ => ?_) (fun _ c => ?_)
  · exact dOk_B (ok_refuses q (-1) hT (by decide) (by decide)) (fun r q2 hr => dOk_some ⟨hr.1, hr.2.1.w (by decide) (by decide)⟩)
  obtain ⟨kk, ek, hk1, _⟩ := ti_nI (x := p1) (by omega)
  have hk2 : kk < 2 := by omega
  subst ek
  have tk : Int32.toInt (nI kk) = (kk : Int) := nI_toInt (by omega)
  have nk : Int32.toNatClampNeg (nI kk) = kk := nI_clamp (by omega)
  unfold zX10_image_17
  refine dFix_ok (fun (a : dS × Int32 × Int32) => TE a.1 ∧ dFr [1, 3, 4] [0] q a.1 ∧ a.1.1 2 = q.1 2 ∧ a.1.1 4 = q.1 4 ∧ a.2.1 = nI kk ∧ ∃ m : Nat, m ≤ 5640 ∧ a.2.2 = nI m ∧ (∀ l : Nat, l < m → a.1.1 3 (5640 * kk + l) = q.1 2 l) ∧ (∀ i : Nat, (i < 5640 * kk ∨ 5640 * kk + 5640 ≤ i) → a.1.1 3 i = q.1 3 i)) (fun (a : dS × Int32 × Int32) => (5640 - Int32.toInt a.2.2).toNat) ?_ _ ⟨hT.1, dFr.rf, rfl, rfl, rfl, 0, by omega, rfl, fun l hl => by omega, fun i _ => rfl⟩ _ (dF_gt (by show (5640 - Int32.toInt 0).toNat < 1000000000000; decide))
  intro a ha k hk
  obtain ⟨qa, x1, x2⟩ := a
  obtain ⟨hE, hF, h2, h4, ex, m, hm, em, hc, ho⟩ := ha
  replace hE : TE qa := hE
  replace hF : dFr [1, 3, 4] [0] q qa := hF
  replace h2 : qa.1 2 = q.1 2 := h2
  replace h4 : qa.1 4 = q.1 4 := h4
  replace ex : x1 = nI kk := ex
  replace em : x2 = nI m := em
  replace hc : ∀ l : Nat, l < m → qa.1 3 (5640 * kk + l) = q.1 2 l := hc
  replace ho : ∀ i : Nat, (i < 5640 * kk ∨ 5640 * kk + 5640 ≤ i) → qa.1 3 i = q.1 3 i := ho
  subst ex em
  have tm : Int32.toInt (nI m) = (m : Int) := nI_toInt (by omega)
  have nm : Int32.toNatClampNeg (nI m) = m := nI_clamp (by omega)
  show dOk (zX10_image_17b (fun q x1 x2 => k (q, x1, x2)) qa (nI kk) (nI m)) _
  unfold zX10_image_17b
  refine dOk_le (A := 5640) (B := (m : Int)) (by decide) tm (fun c2 => ?_) (fun c2 => ?_)
  · have em : m = 5640 := by omega
    subst em
    refine dOk_G (dg_ok (by omega) (by omega)) (dOk_L (fun q2 e2 => ?_))
    rw [nk] at e2
    have hT2 : TS q2 := by
      rw [e2]
      refine ⟨te_set hE (ti_rg _).1 (ti_rg _).2, ?_, ?_, ?_⟩
      · rw [dui_o (by decide), h2]; exact hT.2.1
      · intro j hj hj2
        rw [dui_o (by decide)]
        by_cases cj : j = kk
        · subst cj
          exact KR.congr2 (f := q.1 2) (fun u hu => (te_2z hT (by omega) (by omega)).2) (fun i h1 h3 => (hc i h3).symm) hT.2.1
        · rw [dui_n cj, h4] at hj2
          have := hT.2.2.1 j hj hj2
          have e : (fun i => qa.1 3 (5640 * j + i)) = fun i => if i < 5640 then q.1 3 (5640 * j + i) else qa.1 3 (5640 * j + i) := by
            funext i
            by_cases z : i < 5640
            · rw [if_pos z]; exact ho _ (by omega)
            · rw [if_neg z]
          rw [e]
          refine KR.congr2 (f := fun i => q.1 3 (5640 * j + i)) (fun u hu => ?_) (fun i h1 h3 => (if_pos h3).symm) this
          have z := hT.1 3 (5640 * j + (33 + u))
          have z2 : thi 3 (5640 * j + (33 + u)) = khi ((5640 * j + (33 + u)) % 5640) := rfl
          rw [z2, show (5640 * j + (33 + u)) % 5640 = 33 + u by omega] at z
          have z3 : khi (33 + u) = 400 := by unfold khi; omega
          omega
      · rw [dui_o (by decide), hF.1 6 (by decide) (by decide)]; exact hT.2.2.2
    have hF2 : dFr [1, 3, 4] [0] q q2 := by rw [e2]; exact hF.i (by decide) (by decide)
    exact dOk_B (ok_good q2 0 hT2) (fun r8 q10 hr8 => dOk_some ⟨hr8.1, hF2.t hr8.2.1 (by decide) (by decide)⟩)
  · have t1 : Int32.toInt (5640 * nI kk) = 5640 * (kk : Int) := ti_mul (by decide) tk (by omega) (by omega)
    have t2 : Int32.toInt (5640 * nI kk + nI m) = 5640 * (kk : Int) + m := ti_add t1 tm (by omega) (by omega)
    have n2 : Int32.toNatClampNeg (5640 * nI kk + nI m) = 5640 * kk + m := by
      have := cl_eq (i := 5640 * nI kk + nI m) (by omega)
      omega
    refine dOk_G (dg_ok (by omega) (by omega)) (dOk_L (fun v7 ev7 => dOk_G (dg_ok (by omega) (by omega)) (dOk_L (fun q9 e9 => ?_))))
    rw [n2] at e9
    rw [nm, h2] at ev7
    have tm1 : Int32.toInt (nI m + 1) = (m : Int) + 1 := ti_add tm (by decide) (by omega) (by omega)
    refine hk (q9, nI kk, nI m + 1) ⟨?_, ?_, ?_, ?_, rfl, m + 1, by omega, nI_1 m, ?_, ?_⟩ ?_
    · show TE q9
      rw [e9]
      have z := te_k hT m
      rw [← ev7] at z
      refine te_set hE ?_ ?_
      · show klo ((5640 * kk + m) % 5640) ≤ _
        rw [show (5640 * kk + m) % 5640 = m by omega]; exact z.1
      · show _ ≤ khi ((5640 * kk + m) % 5640)
        rw [show (5640 * kk + m) % 5640 = m by omega]; exact z.2
    · show dFr [1, 3, 4] [0] q q9
      rw [e9]; exact hF.i (by decide) (by decide)
    · show q9.1 2 = q.1 2
      rw [e9, dui_o (by decide)]; exact h2
    · show q9.1 4 = q.1 4
      rw [e9, dui_o (by decide)]; exact h4
    · show ∀ l : Nat, l < m + 1 → q9.1 3 (5640 * kk + l) = q.1 2 l
      intro l hl
      rcases Nat.lt_or_ge l m with z | z
      · rw [e9, dui_n (by omega)]; exact hc l z
      · have : l = m := by omega
        subst this
        rw [e9, dui_e, ev7]
    · show ∀ i : Nat, (i < 5640 * kk ∨ 5640 * kk + 5640 ≤ i) → q9.1 3 i = q.1 3 i
      intro i hi
      rw [e9, dui_n (by omega)]; exact ho i hi
    · show (5640 - Int32.toInt (nI m + 1)).toNat < (5640 - Int32.toInt (nI m)).toNat
      omega
theorem ok_back (q : dS) (p1 : Int32) (hT : TS q) : dOk (zX10_back q p1) (fun (o : Int32 × dS) => (TS o.2) ∧ (dFr [1, 2] [0, 32] q o.2)) := by
  unfold zX10_back
  refine dOk_V (ok_lies p1 0 1) (fun r hr => ?_)
  have hr : (Int32.toInt r = 1 ∧ (0 : Int) ≤ Int32.toInt p1 ∧ Int32.toInt p1 ≤ 1) ∨ (Int32.toInt r = 0 ∧ (Int32.toInt p1 < 0 ∨ 1 < Int32.toInt p1)) := hr
  refine dOk_eq (A := r.toInt) (B := 0) rfl (by decide) (fun _ _ => ?_) (fun _ c => ?_)
  · exact dOk_B (ok_refuses q (-1) hT (by decide) (by decide)) (fun r q2 hr => dOk_some ⟨hr.1, hr.2.1.w (by decide) (by decide)⟩)
  obtain ⟨kk, ek, hk1, _⟩ := ti_nI (x := p1) (by omega)
  have hk2 : kk < 2 := by omega
  subst ek
  have tk : Int32.toInt (nI kk) = (kk : Int) := nI_toInt (by omega)
  have nk : Int32.toNatClampNeg (nI kk) = kk := nI_clamp (by omega)
  refine dOk_G (dg_ok (by omega) (by omega)) (dOk_L (fun v4 e4 => ?_))
  rw [nk] at e4
  refine dOk_eq rfl rfl (fun _ _ => ?_) (fun z4 _ => ?_)
  · exact dOk_B (ok_refuses q (-2) hT (by decide) (by decide)) (fun r q2 hr => dOk_some ⟨hr.1, hr.2.1.w (by decide) (by decide)⟩)
  have hKR := hT.2.2.1 kk hk2 (by rw [← e4]; exact z4)
  unfold zX10_back_33
  refine dFix_ok (fun (a : dS × Int32 × Int32) => TE a.1 ∧ dFr [1, 2] [0, 32] q a.1 ∧ a.2.1 = nI kk ∧ ∃ m : Nat, m ≤ 5640 ∧ a.2.2 = nI m ∧ (∀ l : Nat, l < m → a.1.1 2 l = q.1 3 (5640 * kk + l))) (fun (a : dS × Int32 × Int32) => (5640 - Int32.toInt a.2.2).toNat) ?_ _ ⟨hT.1, dFr.rf, rfl, 0, by omega, rfl, fun l hl => by omega⟩ _ (dF_gt (by show (5640 - Int32.toInt 0).toNat < 1000000000000; decide))
  intro a ha k hk
  obtain ⟨qa, x1, x2⟩ := a
  obtain ⟨hE, hF, ex, m, hm, em, hc⟩ := ha
  replace hE : TE qa := hE
  replace hF : dFr [1, 2] [0, 32] q qa := hF
  replace ex : x1 = nI kk := ex
  replace em : x2 = nI m := em
  replace hc : ∀ l : Nat, l < m → qa.1 2 l = q.1 3 (5640 * kk + l) := hc
  subst ex em
  have tm : Int32.toInt (nI m) = (m : Int) := nI_toInt (by omega)
  have nm : Int32.toNatClampNeg (nI m) = m := nI_clamp (by omega)
  have w3 : qa.1 3 = q.1 3 := hF.1 3 (by decide) (by decide)
  show dOk (zX10_back_33b (fun q x1 x2 => k (q, x1, x2)) qa (nI kk) (nI m)) _
  unfold zX10_back_33b
  refine dOk_le (A := 5640) (B := (m : Int)) (by decide) tm (fun c2 => ?_) (fun c2 => ?_)
  · have em : m = 5640 := by omega
    subst em
    have hTa : TS qa := by
      refine ⟨hE, ?_, ?_, ?_⟩
      · refine KR.congr2 (f := fun i => q.1 3 (5640 * kk + i)) (fun u hu => ?_) (fun i h1 h3 => (hc i h3).symm) hKR
        have z := hT.1 3 (5640 * kk + (33 + u))
        have z2 : thi 3 (5640 * kk + (33 + u)) = khi ((5640 * kk + (33 + u)) % 5640) := rfl
        rw [z2, show (5640 * kk + (33 + u)) % 5640 = 33 + u by omega] at z
        have z3 : khi (33 + u) = 400 := by unfold khi; omega
        omega
      · rw [w3, hF.1 4 (by decide) (by decide)]; exact hT.2.2.1
      · rw [hF.1 6 (by decide) (by decide)]; exact hT.2.2.2
    exact dOk_B (ok_settled qa 0 hTa) (fun r8 q10 hr8 => dOk_some ⟨hr8.1, hF.t hr8.2.1 (by decide) (by decide)⟩)
  · have t1 : Int32.toInt (5640 * nI kk) = 5640 * (kk : Int) := ti_mul (by decide) tk (by omega) (by omega)
    have t2 : Int32.toInt (5640 * nI kk + nI m) = 5640 * (kk : Int) + m := ti_add t1 tm (by omega) (by omega)
    have n2 : Int32.toNatClampNeg (5640 * nI kk + nI m) = 5640 * kk + m := by
      have := cl_eq (i := 5640 * nI kk + nI m) (by omega)
      omega
    refine dOk_G (dg_ok (by omega) (by omega)) (dOk_L (fun v7 ev7 => dOk_G (dg_ok (by omega) (by omega)) (dOk_L (fun q9 e9 => ?_))))
    rw [nm] at e9
    rw [n2, w3] at ev7
    have tm1 : Int32.toInt (nI m + 1) = (m : Int) + 1 := ti_add tm (by decide) (by omega) (by omega)
    refine hk (q9, nI kk, nI m + 1) ⟨?_, ?_, rfl, m + 1, by omega, nI_1 m, ?_⟩ ?_
    · show TE q9
      rw [e9]
      have z := hT.1 3 (5640 * kk + m)
      have z1 : tlo 3 (5640 * kk + m) = klo ((5640 * kk + m) % 5640) := rfl
      have z2 : thi 3 (5640 * kk + m) = khi ((5640 * kk + m) % 5640) := rfl
      rw [z1, z2, show (5640 * kk + m) % 5640 = m by omega, ← ev7] at z
      exact te_set hE z.1 z.2
    · show dFr [1, 2] [0, 32] q q9
      rw [e9]; exact hF.i (by decide) (by decide)
    · show ∀ l : Nat, l < m + 1 → q9.1 2 l = q.1 3 (5640 * kk + l)
      intro l hl
      rcases Nat.lt_or_ge l m with z | z
      · rw [e9, dui_n (by omega)]; exact hc l z
      · have : l = m := by omega
        subst this
        rw [e9, dui_e, ev7]
    · show (5640 - Int32.toInt (nI m + 1)).toNat < (5640 - Int32.toInt (nI m)).toNat
      omega
