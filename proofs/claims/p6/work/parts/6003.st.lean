/-! the reader's step: digits are digits -/
def tkV (x : Int32) : Int32 := if x < 97 then (if x < 48 then 3 else if 57 < x then 3 else 2) else if 122 < x then (if x < 48 then 3 else if 57 < x then 3 else 2) else 1
theorem ok_X4_tokenOf2 (p1 : Int32) : zX4_tokenOf p1 = some (tkV p1) := by
  unfold zX4_tokenOf zX4_tokenOf_14 zX4_tokenOf_30 zX4_tokenOf_31 tkV
  by_cases c1 : p1 < 97
  · rw [if_pos c1, if_pos c1]
    by_cases c2 : p1 < 48
    · rw [if_pos c2, if_pos c2]
    · rw [if_neg c2, if_neg c2]
      by_cases c3 : (57 : Int32) < p1
      · rw [if_pos c3, if_pos c3]
      · rw [if_neg c3, if_neg c3]
  · rw [if_neg c1, if_neg c1]
    by_cases c0 : (122 : Int32) < p1
    · rw [if_pos c0, if_pos c0]
      by_cases c2 : p1 < 48
      · rw [if_pos c2, if_pos c2]
      · rw [if_neg c2, if_neg c2]
        by_cases c3 : (57 : Int32) < p1
        · rw [if_pos c3, if_pos c3]
        · rw [if_neg c3, if_neg c3]
    · rw [if_neg c0, if_neg c0]
theorem tkV_2 {x : Int32} (h : Int32.toInt (tkV x) = 2) : 48 ≤ x.toInt ∧ x.toInt ≤ 57 := by
  have t1 : Int32.toInt 1 = 1 := by decide
  have t3 : Int32.toInt 3 = 3 := by decide
  have t48 : Int32.toInt 48 = 48 := by decide
  have t57 : Int32.toInt 57 = 57 := by decide
  have key : ¬ x < 48 → ¬ (57 : Int32) < x → 48 ≤ x.toInt ∧ x.toInt ≤ 57 := by
    intro a b
    rw [Int32.lt_iff_toInt_lt] at a b
    omega
  unfold tkV at h
  by_cases c1 : x < 97
  · rw [if_pos c1] at h
    by_cases c2 : x < 48
    · rw [if_pos c2] at h; omega
    · rw [if_neg c2] at h
      by_cases c3 : (57 : Int32) < x
      · rw [if_pos c3] at h; omega
      · exact key c2 c3
  · rw [if_neg c1] at h
    by_cases c0 : (122 : Int32) < x
    · rw [if_pos c0] at h
      by_cases c2 : x < 48
      · rw [if_pos c2] at h; omega
      · rw [if_neg c2] at h
        by_cases c3 : (57 : Int32) < x
        · rw [if_pos c3] at h; omega
        · exact key c2 c3
    · rw [if_neg c0] at h; omega
def digs (q : dK) : Prop := Int32.toInt (q.1 24 4) = 2 → ∀ j : Nat, Int32.toInt (q.1 24 5) ≤ (j : Int) → (j : Int) < Int32.toInt (q.1 24 6) → 48 ≤ Int32.toInt (q.1 46 j) ∧ Int32.toInt (q.1 46 j) ≤ 57
theorem ok_X4_step_s24 (q : dK) (hT : TC q) (hp0 : ¬ Int32.toInt (q.1 24 0) = 0) : dOk (zX4_step_s24 q) (fun (o : dK) => (TC o) ∧ (cFr [] [(24, 4), (24, 5), (24, 6), (24, 7)] q o)) := by
  have h162 : ∀ qb : dK, TC qb → cFr [] [(24, 4), (24, 5), (24, 6), (24, 7)] q qb → digs qb → dOk (zX4_step_s24_162 qb) (fun (o : dK) => (TC o) ∧ (cFr [] [(24, 4), (24, 5), (24, 6), (24, 7)] q o)) := by
    intro qb hTb hFb hdig
    have b5 : 0 ≤ Int32.toInt (qb.1 24 5) ∧ Int32.toInt (qb.1 24 5) ≤ 400 := rg_24_5 hTb
    have b6 : 0 ≤ Int32.toInt (qb.1 24 6) ∧ Int32.toInt (qb.1 24 6) ≤ 400 := rg_24_6 hTb
    unfold zX4_step_s24_162 zX4_step_s24_167
    refine dFix_ok (fun (a : dK × Int32) => TC a.1 ∧ cFr [] [(24, 7)] qb a.1 ∧ Int32.toInt (qb.1 24 5) ≤ Int32.toInt a.2 ∧ Int32.toInt a.2 ≤ 400) (fun (a : dK × Int32) => (400 - Int32.toInt a.2).toNat) ?_ _ ⟨hTb, cFr.rf, Int.le_refl _, b5.2⟩ _ (dF_gt (by show (400 - Int32.toInt (qb.1 24 5)).toNat < 1000000000000; omega))
    intro a ha k hk
    obtain ⟨qa, x1⟩ := a
    obtain ⟨hTa, hFa, a1, a2⟩ := ha
    replace hTa : TC qa := hTa
    replace hFa : cFr [] [(24, 7)] qb qa := hFa
    replace a1 : Int32.toInt (qb.1 24 5) ≤ Int32.toInt x1 := a1
    replace a2 : Int32.toInt x1 ≤ 400 := a2
    have w6 : qa.1 24 6 = qb.1 24 6 := hFa.1 24 6 (by decide) (by decide)
    have w4 : qa.1 24 4 = qb.1 24 4 := hFa.1 24 4 (by decide) (by decide)
    have w0 : qa.1 24 0 = q.1 24 0 := (hFa.1 24 0 (by decide) (by decide)).trans (hFb.1 24 0 (by decide) (by decide))
    have w46 : qa.1 46 = qb.1 46 := hFa.row 46 (by decide) (by decide)
    have hFq : cFr [] [(24, 4), (24, 5), (24, 6), (24, 7)] q qa := hFb.t hFa (by decide) (by decide)
    show dOk (zX4_step_s24_167b (fun q x1 => k (q, x1)) qa x1) _
    unfold zX4_step_s24_167b zX4_step_s24_216
    refine dOk_le rfl rfl (fun _ => dOk_some ⟨hTa, hFq⟩) (fun c => ?_)
    rw [w6] at c
    refine dOk_eq rfl (by decide : Int32.toInt 2 = 2) (fun _ c2 => ?_) (fun _ _ => dOk_some ⟨hTa, hFq⟩)
    rw [w4] at c2
    refine dOk_G (dnz_ok (by rw [w0]; exact hp0)) (dOk_G (dg_ok (by omega) (by omega)) (dOk_L (fun v3 e3 => ?_)))
    have ncl := cl_eq (i := x1) (by omega)
    have hv : 48 ≤ Int32.toInt v3 ∧ Int32.toInt v3 ≤ 57 := by
      rw [e3, w46]
      exact hdig c2 _ (by omega) (by omega)
    have f7 : 0 ≤ Int32.toInt (qa.1 24 7) ∧ Int32.toInt (qa.1 24 7) ≤ 1001 := rg_24_7 hTa
    have t1 : Int32.toInt (qa.1 24 7 * 10) = Int32.toInt (qa.1 24 7) * 10 := ti_mul rfl (by decide) (by omega) (by omega)
    have t2 : Int32.toInt (qa.1 24 7 * 10 + v3) = Int32.toInt (qa.1 24 7) * 10 + Int32.toInt v3 := ti_add t1 rfl (by omega) (by omega)
    have t3 : Int32.toInt (qa.1 24 7 * 10 + v3 - 48) = Int32.toInt (qa.1 24 7) * 10 + Int32.toInt v3 - 48 := ti_sub t2 (by decide) (by omega) (by omega)
    have hm := mn_k (b := qa.1 24 7 * 10 + v3 - 48) (show Int32.toInt 1001 = 1001 by decide)
    have t5 : Int32.toInt (x1 + 1) = Int32.toInt x1 + 1 := ti_add rfl (by decide) (by omega) (by omega)
    refine dOk_L (fun q4 e4 => hk (q4, x1 + 1) ⟨?_, ?_, ?_, ?_⟩ ?_)
    · show TC q4
      rw [e4]; exact st_24_7 hTa (show (0 : Int) ≤ Int32.toInt (mnI 1001 (qa.1 24 7 * 10 + v3 - 48)) by omega) (show Int32.toInt (mnI 1001 (qa.1 24 7 * 10 + v3 - 48)) ≤ (1001 : Int) by omega)
    · show cFr [] [(24, 7)] qb q4
      rw [e4]; exact hFa.f (by decide)
    · show Int32.toInt (qb.1 24 5) ≤ Int32.toInt (x1 + 1); omega
    · show Int32.toInt (x1 + 1) ≤ 400; omega
    · show (400 - Int32.toInt (x1 + 1)).toNat < (400 - Int32.toInt x1).toNat; omega
  have h111 : ∀ qb : dK, TC qb → cFr [] [(24, 4), (24, 5), (24, 6), (24, 7)] q qb → digs qb → dOk (zX4_step_s24_111 dF qb) (fun (o : dK) => (TC o) ∧ (cFr [] [(24, 4), (24, 5), (24, 6), (24, 7)] q o)) := by
    intro qb hTb hFb hdig
    have b6 : 0 ≤ Int32.toInt (qb.1 24 6) ∧ Int32.toInt (qb.1 24 6) ≤ 400 := rg_24_6 hTb
    unfold zX4_step_s24_111
    refine dFix_ok (fun (a : dK) => TC a ∧ cFr [] [(24, 4), (24, 5), (24, 6), (24, 7)] q a ∧ digs a) (fun (a : dK) => (400 - Int32.toInt (a.1 24 6)).toNat) ?_ _ ⟨hTb, hFb, hdig⟩ _ (dF_gt (by show (400 - Int32.toInt (qb.1 24 6)).toNat < 1000000000000; omega))
    intro qa ha k hk
    obtain ⟨hTa, hFa, hda⟩ := ha
    have a6 : 0 ≤ Int32.toInt (qa.1 24 6) ∧ Int32.toInt (qa.1 24 6) ≤ 400 := rg_24_6 hTa
    have a1 : 0 ≤ Int32.toInt (qa.1 24 1) ∧ Int32.toInt (qa.1 24 1) ≤ 400 := rg_24_1 hTa
    have w0 : qa.1 24 0 = q.1 24 0 := hFa.1 24 0 (by decide) (by decide)
    show dOk (zX4_step_s24_111b (fun q => k q) qa) _
    unfold zX4_step_s24_111b
    refine dOk_le rfl rfl (fun _ => h162 qa hTa hFa hda) (fun c => ?_)
    refine dOk_eq rfl rfl (fun _ _ => h162 qa hTa hFa hda) (fun _ _ => ?_)
    refine dOk_G (dnz_ok (by rw [w0]; exact hp0)) (dOk_G (dg_ok (by omega) (by omega)) (dOk_L (fun v3 e3 => ?_)))
    refine dOk_V (R := fun r => r = tkV v3) ⟨_, ok_X4_tokenOf2 v3, rfl⟩ (fun r4 e4 => ?_)
    refine dOk_eq rfl rfl (fun c4 _ => ?_) (fun _ _ => h162 qa hTa hFa hda)
    have t1 : Int32.toInt (qa.1 24 6 + 1) = Int32.toInt (qa.1 24 6) + 1 := ti_add rfl (by decide) (by omega) (by omega)
    have ncl := cl_eq (i := qa.1 24 6) (by omega)
    refine dOk_L (fun q6 e6 => hk q6 ⟨?_, ?_, ?_⟩ ?_)
    · rw [e6]; exact st_24_6 hTa (show (0 : Int) ≤ Int32.toInt (qa.1 24 6 + 1) by omega) (show Int32.toInt (qa.1 24 6 + 1) ≤ (400 : Int) by omega)
    · rw [e6]; exact hFa.f (by decide)
    · intro h2 j hj1 hj2
      rw [e6, cui_n (by decide)] at h2
      rw [e6, cui_n (by decide)] at hj1
      rw [e6, cui_e, t1] at hj2
      rw [e6, cui_o (by decide)]
      by_cases cj : (j : Int) < Int32.toInt (qa.1 24 6)
      · exact hda h2 j hj1 cj
      · have ej : j = Int32.toNatClampNeg (qa.1 24 6) := by omega
        rw [ej, ← e3]
        exact tkV_2 (by rw [← e4, c4]; exact h2)
    · show (400 - Int32.toInt (q6.1 24 6)).toNat < (400 - Int32.toInt (qa.1 24 6)).toNat
      rw [e6, cui_e, t1]
      omega
  have h55 : ∀ qb : dK, TC qb → cFr [] [(24, 4), (24, 5), (24, 6), (24, 7)] q qb → dOk (zX4_step_s24_55 qb) (fun (o : dK) => (TC o) ∧ (cFr [] [(24, 4), (24, 5), (24, 6), (24, 7)] q o)) := by
    intro qb hTb hFb
    have b5 : 0 ≤ Int32.toInt (qb.1 24 5) ∧ Int32.toInt (qb.1 24 5) ≤ 400 := rg_24_5 hTb
    unfold zX4_step_s24_55
    refine dOk_L (fun q1 e1 => ?_)
    have hT1 : TC q1 := by rw [e1]; exact st_24_6 hTb (show (0 : Int) ≤ Int32.toInt (qb.1 24 5) by omega) (show Int32.toInt (qb.1 24 5) ≤ (400 : Int) by omega)
    have hF1 : cFr [] [(24, 4), (24, 5), (24, 6), (24, 7)] q q1 := by rw [e1]; exact hFb.f (by decide)
    refine dOk_L (fun q2 e2 => ?_)
    have hT2 : TC q2 := by rw [e2]; exact st_24_7 hT1 (show (0 : Int) ≤ Int32.toInt 0 by decide) (show Int32.toInt 0 ≤ (1001 : Int) by decide)
    have hF2 : cFr [] [(24, 4), (24, 5), (24, 6), (24, 7)] q q2 := by rw [e2]; exact hF1.f (by decide)
    refine dOk_L (fun q3 e3 => ?_)
    have hT3 : TC q3 := by rw [e3]; exact sa_24_4 hT2
    have hF3 : cFr [] [(24, 4), (24, 5), (24, 6), (24, 7)] q q3 := by rw [e3]; exact hF2.f (by decide)
    have w5 : q3.1 24 5 = qb.1 24 5 := by rw [e3, cui_n (by decide), e2, cui_n (by decide), e1, cui_n (by decide)]
    have w6 : q3.1 24 6 = qb.1 24 5 := by rw [e3, cui_n (by decide), e2, cui_n (by decide), e1, cui_e]
    have w0 : q3.1 24 0 = q.1 24 0 := hF3.1 24 0 (by decide) (by decide)
    have a1 : 0 ≤ Int32.toInt (q3.1 24 1) ∧ Int32.toInt (q3.1 24 1) ≤ 400 := rg_24_1 hT3
    refine dOk_lt rfl rfl (fun c => ?_) (fun _ => dOk_some ⟨hT3, hF3⟩)
    rw [w5] at c
    refine dOk_G (dnz_ok (by rw [w0]; exact hp0)) (dOk_G (dg_ok (by rw [w5]; omega) (by rw [w5]; omega)) (dOk_L (fun v6 e6 => ?_)))
    refine dOk_V (R := fun r => r = tkV v6) ⟨_, ok_X4_tokenOf2 v6, rfl⟩ (fun r7 e7 => ?_)
    refine dOk_L (fun q9 e9 => ?_)
    have hT9 : TC q9 := by rw [e9]; exact sa_24_4 hT3
    have hF9 : cFr [] [(24, 4), (24, 5), (24, 6), (24, 7)] q q9 := by rw [e9]; exact hF3.f (by decide)
    have v6' : q9.1 24 6 = qb.1 24 5 := by rw [e9, cui_n (by decide)]; exact w6
    have t1 : Int32.toInt (q9.1 24 6 + 1) = Int32.toInt (qb.1 24 5) + 1 := by rw [v6']; exact ti_add rfl (by decide) (by omega) (by omega)
    refine dOk_L (fun q10 e10 => h111 q10 ?_ ?_ ?_)
    · rw [e10]; exact st_24_6 hT9 (show (0 : Int) ≤ Int32.toInt (q9.1 24 6 + 1) by omega) (show Int32.toInt (q9.1 24 6 + 1) ≤ (400 : Int) by omega)
    · rw [e10]; exact hF9.f (by decide)
    · intro h2 j hj1 hj2
      have z4 : q10.1 24 4 = r7 := by rw [e10, cui_n (by decide), e9, cui_e]
      have z5 : q10.1 24 5 = qb.1 24 5 := by rw [e10, cui_n (by decide), e9, cui_n (by decide)]; exact w5
      have z46 : q10.1 46 = q3.1 46 := by rw [e10, cui_o (by decide), e9, cui_o (by decide)]
      rw [z4] at h2
      rw [z5] at hj1
      rw [e10, cui_e, t1] at hj2
      rw [z46]
      have ncl := cl_eq (i := q3.1 24 5) (by rw [w5]; omega)
      rw [w5] at ncl
      have ej : j = Int32.toNatClampNeg (q3.1 24 5) := by rw [w5]; omega
      rw [ej, ← e6]
      exact tkV_2 (by rw [← e7]; exact h2)
  have f6 : 0 ≤ Int32.toInt (q.1 24 6) ∧ Int32.toInt (q.1 24 6) ≤ 400 := rg_24_6 hT
  unfold zX4_step_s24
  refine dOk_eq rfl rfl (fun _ _ => ?_) (fun _ _ => dOk_some ⟨hT, cFr.rf⟩)
  refine dOk_L (fun q1 e1 => ?_)
  have hT1 : TC q1 := by rw [e1]; exact st_24_5 hT (show (0 : Int) ≤ Int32.toInt (q.1 24 6) by omega) (show Int32.toInt (q.1 24 6) ≤ (400 : Int) by omega)
  have hF1 : cFr [] [(24, 4), (24, 5), (24, 6), (24, 7)] q q1 := by rw [e1]; exact cFr.rf.f (by decide)
  have g5 : 0 ≤ Int32.toInt (q1.1 24 5) ∧ Int32.toInt (q1.1 24 5) ≤ 400 := rg_24_5 hT1
  unfold zX4_step_s24_17
  refine dFix_ok (fun (a : dK) => TC a ∧ cFr [] [(24, 4), (24, 5), (24, 6), (24, 7)] q a) (fun (a : dK) => (400 - Int32.toInt (a.1 24 5)).toNat) ?_ _ ⟨hT1, hF1⟩ _ (dF_gt (by show (400 - Int32.toInt (q1.1 24 5)).toNat < 1000000000000; omega))
  intro qa ha k hk
  obtain ⟨hTa, hFa⟩ := ha
  have a5 : 0 ≤ Int32.toInt (qa.1 24 5) ∧ Int32.toInt (qa.1 24 5) ≤ 400 := rg_24_5 hTa
  have a1 : 0 ≤ Int32.toInt (qa.1 24 1) ∧ Int32.toInt (qa.1 24 1) ≤ 400 := rg_24_1 hTa
  have w0 : qa.1 24 0 = q.1 24 0 := hFa.1 24 0 (by decide) (by decide)
  show dOk (zX4_step_s24_17b (fun q => k q) qa) _
  unfold zX4_step_s24_17b
  refine dOk_le rfl rfl (fun _ => h55 qa hTa hFa) (fun c => ?_)
  refine dOk_G (dnz_ok (by rw [w0]; exact hp0)) (dOk_G (dg_ok (by omega) (by omega)) (dOk_L (fun v3 e3 => ?_)))
  refine dOk_eq rfl rfl (fun _ _ => ?_) (fun _ _ => h55 qa hTa hFa)
  have t1 : Int32.toInt (qa.1 24 5 + 1) = Int32.toInt (qa.1 24 5) + 1 := ti_add rfl (by decide) (by omega) (by omega)
  refine dOk_L (fun q4 e4 => hk q4 ⟨?_, ?_⟩ ?_)
  · rw [e4]; exact st_24_5 hTa (show (0 : Int) ≤ Int32.toInt (qa.1 24 5 + 1) by omega) (show Int32.toInt (qa.1 24 5 + 1) ≤ (400 : Int) by omega)
  · rw [e4]; exact hFa.f (by decide)
  · show (400 - Int32.toInt (q4.1 24 5)).toNat < (400 - Int32.toInt (qa.1 24 5)).toNat
    rw [e4, cui_e, t1]
    omega
theorem ok_J6_bitCount_0f7a4 (p1 : Int32) : dOk (zJ6_bitCount_0f7a4 p1) (fun (o : Int32) => (0 ≤ Int32.toInt o ∧ Int32.toInt o ≤ 63)) := by
  unfold zJ6_bitCount_0f7a4
  refine dOk_L (fun v1 _ => dOk_L (fun v2 _ => dOk_L (fun v3 _ => dOk_L (fun v4 _ => dOk_L (fun v5 _ => dOk_L (fun v6 _ => dOk_L (fun v7 e7 => dOk_some ?_)))))))
  rw [e7]
  exact ti_and63 _
theorem mxmn (r : Int32) : 0 ≤ Int32.toInt (mxI 0 (mnI 99 r)) ∧ Int32.toInt (mxI 0 (mnI 99 r)) ≤ 99 := by
  have h1 := mx_k (b := mnI 99 r) (show Int32.toInt 0 = 0 by decide)
  have h2 := mn_k (b := r) (show Int32.toInt 99 = 99 by decide)
  generalize Int32.toInt (mxI 0 (mnI 99 r)) = A at *
  generalize Int32.toInt (mnI 99 r) = B at *
  omega
