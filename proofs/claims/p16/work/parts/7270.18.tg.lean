theorem ok2_X8_unpack_s2 (q : dK) (p1 : Int64) (hp0 : 0 ≤ p1.toInt) : dOk (zX8_unpack_s2 q p1) (fun (o : dK) => aT 2 o = unp p1.toInt) := by
  have hmx := p1.toInt_lt
  unfold zX8_unpack_s2
  refine dOk_L (fun q1 e1 => dOk_L (fun v2 e2 => dOk_L (fun q3 e3 => ?_)))
  have y4 : Int32.toInt (q3.1 2 4) = p1.toInt % 1024 := by rw [e3, cui_n (by decide), e1, cui_e]; exact w_a10 hp0
  have y3 : Int32.toInt (q3.1 2 3) = p1.toInt / 1024 % 16384 := by
    have z := us_10 p1
    rw [e3, cui_e, e2, w_a14 (by omega), z]
    rfl
  have s24 := us_24 p1
  have d0 : Int32.toInt 0 = 0 := by decide
  have d5 : Int32.toInt 5 = 5 := by decide
  unfold zX8_unpack_s2_31
  refine dFix_ok (fun (a : dK × Int64 × Int32) => Int32.toInt (a.1.1 2 4) = p1.toInt % 1024 ∧ Int32.toInt (a.1.1 2 3) = p1.toInt / 1024 % 16384 ∧ -1 ≤ a.2.2.toInt ∧ a.2.2.toInt ≤ 5 ∧ (∀ m : Nat, (m : Int) = a.2.2.toInt + 1 → a.2.1.toInt = dq p1.toInt m) ∧ (∀ i : Nat, a.2.2.toInt < (i : Int) → i < 6 → Int32.toInt (a.1.1 3 i) = dq p1.toInt (i + 1) / 2 % 8 ∧ Int32.toInt (a.1.1 4 i) = dq p1.toInt (i + 1) % 2)) (fun (a : dK × Int64 × Int32) => (a.2.2.toInt + 1).toNat) ?_ _ ⟨y4, y3, by show -1 ≤ Int32.toInt 5; omega, by show Int32.toInt 5 ≤ 5; omega, fun m hm => ?_, fun i hi h6 => absurd hi (by show ¬ Int32.toInt 5 < (i : Int); omega)⟩ _ (dF_gt (by show (Int32.toInt 5 + 1).toNat < 1000000000000; decide))
  · clear s24 y4 y3 e1 e2 e3
    intro a ha k31 hk31
    obtain ⟨qa, x3, x5⟩ := a
    obtain ⟨a0, a1, a2, a3, a4, a5⟩ := ha
    replace a0 : Int32.toInt (qa.1 2 4) = p1.toInt % 1024 := a0
    replace a1 : Int32.toInt (qa.1 2 3) = p1.toInt / 1024 % 16384 := a1
    replace a2 : -1 ≤ x5.toInt := a2
    replace a3 : x5.toInt ≤ 5 := a3
    replace a4 : ∀ m : Nat, (m : Int) = x5.toInt + 1 → x3.toInt = dq p1.toInt m := a4
    replace a5 : ∀ i : Nat, x5.toInt < (i : Int) → i < 6 → Int32.toInt (qa.1 3 i) = dq p1.toInt (i + 1) / 2 % 8 ∧ Int32.toInt (qa.1 4 i) = dq p1.toInt (i + 1) % 2 := a5
    show dOk (zX8_unpack_s2_31b (fun q x3 x5 => k31 (q, x3, x5)) qa x3 x5) _
    unfold zX8_unpack_s2_31b
    refine dOk_lt rfl d0 (fun c => ?_) (fun c => ?_)
    · have z : x3.toInt = dq p1.toInt 0 := a4 0 (by clear a0 a1 a4 a5 hmx; omega)
      have zz : dq p1.toInt 0 = p1.toInt / 281474976710656 := rfl
      have hb : 0 ≤ x3.toInt ∧ x3.toInt < 65536 := by rw [z, zz]; clear a0 a1 a4 a5 z; omega
      have e6 : (Int64.toInt32 x3).toInt = x3.toInt := by clear a0 a1 a4 a5 hmx z zz; exact w_i32 (by omega) (by omega)
      have hm := mn_k (b := Int64.toInt32 x3) (show Int32.toInt 6 = 6 by decide)
      refine dOk_L (fun q8 e8 => dOk_some ?_)
      show aT 2 q8 = unp p1.toInt
      have w4 : q8.1 2 4 = qa.1 2 4 := by rw [e8]; exact cui_n (by decide)
      have w3 : q8.1 2 3 = qa.1 2 3 := by rw [e8]; exact cui_n (by decide)
      have wR : q8.1 3 = qa.1 3 := by rw [e8]; exact cui_o (by decide)
      have wH : q8.1 4 = qa.1 4 := by rw [e8]; exact cui_o (by decide)
      have w2 : Int32.toInt (q8.1 2 2) = if dq p1.toInt 0 < 6 then dq p1.toInt 0 else 6 := by
        rw [e8, cui_e]
        by_cases c6 : dq p1.toInt 0 < 6
        · rw [if_pos c6]; clear a0 a1 a4 a5 hmx zz; omega
        · rw [if_neg c6]; clear a0 a1 a4 a5 hmx zz; omega
      refine Prod.ext w2 (Prod.ext ?_ (Prod.ext ?_ (Prod.ext ?_ ?_)))
      · show i6 (q8.1 3) = fun i => if i < 6 then dq p1.toInt (i + 1) / 2 % 8 else 0
        rw [wR]
        funext i
        by_cases ci : i < 6
        · rw [if_pos ci, i6_l ci]; exact (a5 i (by clear a0 a1 a4 a5 hmx; omega) ci).1
        · rw [if_neg ci, i6_0 ci]
      · show i6 (q8.1 4) = fun i => if i < 6 then dq p1.toInt (i + 1) % 2 else 0
        rw [wH]
        funext i
        by_cases ci : i < 6
        · rw [if_pos ci, i6_l ci]; exact (a5 i (by clear a0 a1 a4 a5 hmx; omega) ci).2
        · rw [if_neg ci, i6_0 ci]
      · show Int32.toInt (q8.1 2 3) = _
        rw [w3]; exact a1
      · show Int32.toInt (q8.1 2 4) = _
        rw [w4]; exact a0
    · have n5 := cl_eq c
      have i6 : x5.toInt < 6 := by clear a0 a1 a4 a5 hmx; omega
      have nb : Int32.toNatClampNeg x5 < 6 := by clear a0 a1 a4 a5 hmx; omega
      have t1 : Int32.toInt (x5 + (-1)) = x5.toInt + (-1) := by clear a0 a1 a4 a5 hmx; exact ti_add rfl (by decide) (by omega) (by omega)
      have t2 : -1 ≤ Int32.toInt (x5 + (-1)) := by clear a0 a1 a4 a5 hmx; omega
      have t3 : Int32.toInt (x5 + (-1)) ≤ 5 := by clear a0 a1 a4 a5 hmx; omega
      have t4 : ∀ m : Nat, (m : Int) = Int32.toInt (x5 + (-1)) + 1 → m = Int32.toNatClampNeg x5 := by clear a0 a1 a4 a5 hmx; intro m hm; omega
      have t5 : ∀ i : Nat, Int32.toInt (x5 + (-1)) < (i : Int) → ¬ i = Int32.toNatClampNeg x5 → x5.toInt < (i : Int) := by clear a0 a1 a4 a5 hmx; intro i hi ci; omega
      have t6 : (Int32.toInt (x5 + (-1)) + 1).toNat < (Int32.toInt x5 + 1).toNat := by clear a0 a1 a4 a5 hmx; omega
      have z := a4 (Int32.toNatClampNeg x5 + 1) (by clear a0 a1 a4 a5 hmx; omega)
      have z1 := dq_s p1.toInt (Int32.toNatClampNeg x5) nb
      have z0 : 0 ≤ x3.toInt := by rw [z]; exact dq_0 hp0 _
      rw [← z] at z1
      have p4 : (2 : Int) ^ 4 = 16 := by decide
      have p1' : (2 : Int) ^ 1 = 2 := by decide
      have s4 := us_4 x3
      have s1 := us_1 x3
      rw [p4] at s4
      rw [p1'] at s1
      have s0 : 0 ≤ (x3 >>> (Int32.toInt64 (1 : Int32) &&& 63)).toInt := by rw [s1]; exact Int.ediv_nonneg z0 (by decide)
      have u1 : (Int64.toInt32 (x3 &&& 1)).toInt = x3.toInt % 2 := w_a1 z0
      have u7 : (Int64.toInt32 ((x3 >>> (Int32.toInt64 (1 : Int32) &&& 63)) &&& 7)).toInt = x3.toInt / 2 % 8 := by rw [w_a3 s0, s1]
      refine dOk_G (dg_ok c i6) (dOk_L (fun q5 e5 => dOk_G (dg_ok c i6) (dOk_L (fun q7 e7 => ?_))))
      refine hk31 (q7, x3 >>> (Int32.toInt64 (4 : Int32) &&& 63), x5 + (-1)) ⟨?_, ?_, ?_, ?_, fun m hm => ?_, fun i hi h6 => ?_⟩ ?_
      · show Int32.toInt (q7.1 2 4) = _
        rw [e7, cui_o (by decide), e5, cui_o (by decide)]; exact a0
      · show Int32.toInt (q7.1 2 3) = _
        rw [e7, cui_o (by decide), e5, cui_o (by decide)]; exact a1
      · exact t2
      · exact t3
      · replace hm : (m : Int) = Int32.toInt (x5 + (-1)) + 1 := hm
        show (x3 >>> (Int32.toInt64 (4 : Int32) &&& 63)).toInt = _
        rw [s4, t4 m hm, z1]
      · replace hi : Int32.toInt (x5 + (-1)) < (i : Int) := hi
        show Int32.toInt (q7.1 3 i) = _ ∧ Int32.toInt (q7.1 4 i) = _
        have r1 : q7.1 4 i = q5.1 4 i := by rw [e7, cui_o (by decide)]
        have r2 : q5.1 3 = qa.1 3 := by rw [e5]; exact cui_o (by decide)
        by_cases ci : i = Int32.toNatClampNeg x5
        · subst ci
          rw [r1, e7, e5, cui_e, cui_e]
          rw [← z]
          exact ⟨u7, u1⟩
        · rw [r1, e7, cui_n ci, r2, e5, cui_n ci]
          exact a5 i (t5 i hi ci) h6
      · exact t6
  · replace hm : (m : Int) = Int32.toInt 5 + 1 := hm
    show (p1 >>> (Int32.toInt64 (24 : Int32) &&& 63)).toInt = _
    rw [s24, show m = 6 by omega]
    rfl
theorem ok2_X8_unpack_s15 (q : dK) (p1 : Int64) (hp0 : 0 ≤ p1.toInt) : dOk (zX8_unpack_s15 q p1) (fun (o : dK) => aT 15 o = unp p1.toInt) := by
  have hmx := p1.toInt_lt
  unfold zX8_unpack_s15
  refine dOk_L (fun q1 e1 => dOk_L (fun v2 e2 => dOk_L (fun q3 e3 => ?_)))
  have y4 : Int32.toInt (q3.1 15 4) = p1.toInt % 1024 := by rw [e3, cui_n (by decide), e1, cui_e]; exact w_a10 hp0
  have y3 : Int32.toInt (q3.1 15 3) = p1.toInt / 1024 % 16384 := by
    have z := us_10 p1
    rw [e3, cui_e, e2, w_a14 (by omega), z]
    rfl
  have s24 := us_24 p1
  have d0 : Int32.toInt 0 = 0 := by decide
  have d5 : Int32.toInt 5 = 5 := by decide
  unfold zX8_unpack_s15_31
  refine dFix_ok (fun (a : dK × Int64 × Int32) => Int32.toInt (a.1.1 15 4) = p1.toInt % 1024 ∧ Int32.toInt (a.1.1 15 3) = p1.toInt / 1024 % 16384 ∧ -1 ≤ a.2.2.toInt ∧ a.2.2.toInt ≤ 5 ∧ (∀ m : Nat, (m : Int) = a.2.2.toInt + 1 → a.2.1.toInt = dq p1.toInt m) ∧ (∀ i : Nat, a.2.2.toInt < (i : Int) → i < 6 → Int32.toInt (a.1.1 16 i) = dq p1.toInt (i + 1) / 2 % 8 ∧ Int32.toInt (a.1.1 17 i) = dq p1.toInt (i + 1) % 2)) (fun (a : dK × Int64 × Int32) => (a.2.2.toInt + 1).toNat) ?_ _ ⟨y4, y3, by show -1 ≤ Int32.toInt 5; omega, by show Int32.toInt 5 ≤ 5; omega, fun m hm => ?_, fun i hi h6 => absurd hi (by show ¬ Int32.toInt 5 < (i : Int); omega)⟩ _ (dF_gt (by show (Int32.toInt 5 + 1).toNat < 1000000000000; decide))
  · clear s24 y4 y3 e1 e2 e3
    intro a ha k31 hk31
    obtain ⟨qa, x3, x5⟩ := a
    obtain ⟨a0, a1, a2, a3, a4, a5⟩ := ha
    replace a0 : Int32.toInt (qa.1 15 4) = p1.toInt % 1024 := a0
    replace a1 : Int32.toInt (qa.1 15 3) = p1.toInt / 1024 % 16384 := a1
    replace a2 : -1 ≤ x5.toInt := a2
    replace a3 : x5.toInt ≤ 5 := a3
    replace a4 : ∀ m : Nat, (m : Int) = x5.toInt + 1 → x3.toInt = dq p1.toInt m := a4
    replace a5 : ∀ i : Nat, x5.toInt < (i : Int) → i < 6 → Int32.toInt (qa.1 16 i) = dq p1.toInt (i + 1) / 2 % 8 ∧ Int32.toInt (qa.1 17 i) = dq p1.toInt (i + 1) % 2 := a5
    show dOk (zX8_unpack_s15_31b (fun q x3 x5 => k31 (q, x3, x5)) qa x3 x5) _
    unfold zX8_unpack_s15_31b
    refine dOk_lt rfl d0 (fun c => ?_) (fun c => ?_)
    · have z : x3.toInt = dq p1.toInt 0 := a4 0 (by clear a0 a1 a4 a5 hmx; omega)
      have zz : dq p1.toInt 0 = p1.toInt / 281474976710656 := rfl
      have hb : 0 ≤ x3.toInt ∧ x3.toInt < 65536 := by rw [z, zz]; clear a0 a1 a4 a5 z; omega
      have e6 : (Int64.toInt32 x3).toInt = x3.toInt := by clear a0 a1 a4 a5 hmx z zz; exact w_i32 (by omega) (by omega)
      have hm := mn_k (b := Int64.toInt32 x3) (show Int32.toInt 6 = 6 by decide)
      refine dOk_L (fun q8 e8 => dOk_some ?_)
      show aT 15 q8 = unp p1.toInt
      have w4 : q8.1 15 4 = qa.1 15 4 := by rw [e8]; exact cui_n (by decide)
      have w3 : q8.1 15 3 = qa.1 15 3 := by rw [e8]; exact cui_n (by decide)
      have wR : q8.1 16 = qa.1 16 := by rw [e8]; exact cui_o (by decide)
      have wH : q8.1 17 = qa.1 17 := by rw [e8]; exact cui_o (by decide)
      have w2 : Int32.toInt (q8.1 15 2) = if dq p1.toInt 0 < 6 then dq p1.toInt 0 else 6 := by
        rw [e8, cui_e]
        by_cases c6 : dq p1.toInt 0 < 6
        · rw [if_pos c6]; clear a0 a1 a4 a5 hmx zz; omega
        · rw [if_neg c6]; clear a0 a1 a4 a5 hmx zz; omega
      refine Prod.ext w2 (Prod.ext ?_ (Prod.ext ?_ (Prod.ext ?_ ?_)))
      · show i6 (q8.1 16) = fun i => if i < 6 then dq p1.toInt (i + 1) / 2 % 8 else 0
        rw [wR]
        funext i
        by_cases ci : i < 6
        · rw [if_pos ci, i6_l ci]; exact (a5 i (by clear a0 a1 a4 a5 hmx; omega) ci).1
        · rw [if_neg ci, i6_0 ci]
      · show i6 (q8.1 17) = fun i => if i < 6 then dq p1.toInt (i + 1) % 2 else 0
        rw [wH]
        funext i
        by_cases ci : i < 6
        · rw [if_pos ci, i6_l ci]; exact (a5 i (by clear a0 a1 a4 a5 hmx; omega) ci).2
        · rw [if_neg ci, i6_0 ci]
      · show Int32.toInt (q8.1 15 3) = _
        rw [w3]; exact a1
      · show Int32.toInt (q8.1 15 4) = _
        rw [w4]; exact a0
    · have n5 := cl_eq c
      have i6 : x5.toInt < 6 := by clear a0 a1 a4 a5 hmx; omega
      have nb : Int32.toNatClampNeg x5 < 6 := by clear a0 a1 a4 a5 hmx; omega
      have t1 : Int32.toInt (x5 + (-1)) = x5.toInt + (-1) := by clear a0 a1 a4 a5 hmx; exact ti_add rfl (by decide) (by omega) (by omega)
      have t2 : -1 ≤ Int32.toInt (x5 + (-1)) := by clear a0 a1 a4 a5 hmx; omega
      have t3 : Int32.toInt (x5 + (-1)) ≤ 5 := by clear a0 a1 a4 a5 hmx; omega
      have t4 : ∀ m : Nat, (m : Int) = Int32.toInt (x5 + (-1)) + 1 → m = Int32.toNatClampNeg x5 := by clear a0 a1 a4 a5 hmx; intro m hm; omega
      have t5 : ∀ i : Nat, Int32.toInt (x5 + (-1)) < (i : Int) → ¬ i = Int32.toNatClampNeg x5 → x5.toInt < (i : Int) := by clear a0 a1 a4 a5 hmx; intro i hi ci; omega
      have t6 : (Int32.toInt (x5 + (-1)) + 1).toNat < (Int32.toInt x5 + 1).toNat := by clear a0 a1 a4 a5 hmx; omega
      have z := a4 (Int32.toNatClampNeg x5 + 1) (by clear a0 a1 a4 a5 hmx; omega)
      have z1 := dq_s p1.toInt (Int32.toNatClampNeg x5) nb
      have z0 : 0 ≤ x3.toInt := by rw [z]; exact dq_0 hp0 _
      rw [← z] at z1
      have p4 : (2 : Int) ^ 4 = 16 := by decide
      have p1' : (2 : Int) ^ 1 = 2 := by decide
      have s4 := us_4 x3
      have s1 := us_1 x3
      rw [p4] at s4
      rw [p1'] at s1
      have s0 : 0 ≤ (x3 >>> (Int32.toInt64 (1 : Int32) &&& 63)).toInt := by rw [s1]; exact Int.ediv_nonneg z0 (by decide)
      have u1 : (Int64.toInt32 (x3 &&& 1)).toInt = x3.toInt % 2 := w_a1 z0
      have u7 : (Int64.toInt32 ((x3 >>> (Int32.toInt64 (1 : Int32) &&& 63)) &&& 7)).toInt = x3.toInt / 2 % 8 := by rw [w_a3 s0, s1]
      refine dOk_G (dg_ok c i6) (dOk_L (fun q5 e5 => dOk_G (dg_ok c i6) (dOk_L (fun q7 e7 => ?_))))
      refine hk31 (q7, x3 >>> (Int32.toInt64 (4 : Int32) &&& 63), x5 + (-1)) ⟨?_, ?_, ?_, ?_, fun m hm => ?_, fun i hi h6 => ?_⟩ ?_
      · show Int32.toInt (q7.1 15 4) = _
        rw [e7, cui_o (by decide), e5, cui_o (by decide)]; exact a0
      · show Int32.toInt (q7.1 15 3) = _
        rw [e7, cui_o (by decide), e5, cui_o (by decide)]; exact a1
      · exact t2
      · exact t3
      · replace hm : (m : Int) = Int32.toInt (x5 + (-1)) + 1 := hm
        show (x3 >>> (Int32.toInt64 (4 : Int32) &&& 63)).toInt = _
        rw [s4, t4 m hm, z1]
      · replace hi : Int32.toInt (x5 + (-1)) < (i : Int) := hi
        show Int32.toInt (q7.1 16 i) = _ ∧ Int32.toInt (q7.1 17 i) = _
        have r1 : q7.1 17 i = q5.1 17 i := by rw [e7, cui_o (by decide)]
        have r2 : q5.1 16 = qa.1 16 := by rw [e5]; exact cui_o (by decide)
        by_cases ci : i = Int32.toNatClampNeg x5
        · subst ci
          rw [r1, e7, e5, cui_e, cui_e]
          rw [← z]
          exact ⟨u7, u1⟩
        · rw [r1, e7, cui_n ci, r2, e5, cui_n ci]
          exact a5 i (t5 i hi ci) h6
      · exact t6
  · replace hm : (m : Int) = Int32.toInt 5 + 1 := hm
    show (p1 >>> (Int32.toInt64 (24 : Int32) &&& 63)).toInt = _
    rw [s24, show m = 6 by omega]
    rfl
theorem ok2_X8_unpack_s50 (q : dK) (p1 : Int64) (hp0 : 0 ≤ p1.toInt) : dOk (zX8_unpack_s50 q p1) (fun (o : dK) => aT 50 o = unp p1.toInt) := by
  have hmx := p1.toInt_lt
  unfold zX8_unpack_s50
  refine dOk_L (fun q1 e1 => dOk_L (fun v2 e2 => dOk_L (fun q3 e3 => ?_)))
  have y4 : Int32.toInt (q3.1 50 4) = p1.toInt % 1024 := by rw [e3, cui_n (by decide), e1, cui_e]; exact w_a10 hp0
  have y3 : Int32.toInt (q3.1 50 3) = p1.toInt / 1024 % 16384 := by
    have z := us_10 p1
    rw [e3, cui_e, e2, w_a14 (by omega), z]
    rfl
  have s24 := us_24 p1
  have d0 : Int32.toInt 0 = 0 := by decide
  have d5 : Int32.toInt 5 = 5 := by decide
  unfold zX8_unpack_s50_31
  refine dFix_ok (fun (a : dK × Int64 × Int32) => Int32.toInt (a.1.1 50 4) = p1.toInt % 1024 ∧ Int32.toInt (a.1.1 50 3) = p1.toInt / 1024 % 16384 ∧ -1 ≤ a.2.2.toInt ∧ a.2.2.toInt ≤ 5 ∧ (∀ m : Nat, (m : Int) = a.2.2.toInt + 1 → a.2.1.toInt = dq p1.toInt m) ∧ (∀ i : Nat, a.2.2.toInt < (i : Int) → i < 6 → Int32.toInt (a.1.1 51 i) = dq p1.toInt (i + 1) / 2 % 8 ∧ Int32.toInt (a.1.1 52 i) = dq p1.toInt (i + 1) % 2)) (fun (a : dK × Int64 × Int32) => (a.2.2.toInt + 1).toNat) ?_ _ ⟨y4, y3, by show -1 ≤ Int32.toInt 5; omega, by show Int32.toInt 5 ≤ 5; omega, fun m hm => ?_, fun i hi h6 => absurd hi (by show ¬ Int32.toInt 5 < (i : Int); omega)⟩ _ (dF_gt (by show (Int32.toInt 5 + 1).toNat < 1000000000000; decide))
  · clear s24 y4 y3 e1 e2 e3
    intro a ha k31 hk31
    obtain ⟨qa, x3, x5⟩ := a
    obtain ⟨a0, a1, a2, a3, a4, a5⟩ := ha
    replace a0 : Int32.toInt (qa.1 50 4) = p1.toInt % 1024 := a0
    replace a1 : Int32.toInt (qa.1 50 3) = p1.toInt / 1024 % 16384 := a1
    replace a2 : -1 ≤ x5.toInt := a2
    replace a3 : x5.toInt ≤ 5 := a3
    replace a4 : ∀ m : Nat, (m : Int) = x5.toInt + 1 → x3.toInt = dq p1.toInt m := a4
    replace a5 : ∀ i : Nat, x5.toInt < (i : Int) → i < 6 → Int32.toInt (qa.1 51 i) = dq p1.toInt (i + 1) / 2 % 8 ∧ Int32.toInt (qa.1 52 i) = dq p1.toInt (i + 1) % 2 := a5
    show dOk (zX8_unpack_s50_31b (fun q x3 x5 => k31 (q, x3, x5)) qa x3 x5) _
    unfold zX8_unpack_s50_31b
    refine dOk_lt rfl d0 (fun c => ?_) (fun c => ?_)
    · have z : x3.toInt = dq p1.toInt 0 := a4 0 (by clear a0 a1 a4 a5 hmx; omega)
      have zz : dq p1.toInt 0 = p1.toInt / 281474976710656 := rfl
      have hb : 0 ≤ x3.toInt ∧ x3.toInt < 65536 := by rw [z, zz]; clear a0 a1 a4 a5 z; omega
      have e6 : (Int64.toInt32 x3).toInt = x3.toInt := by clear a0 a1 a4 a5 hmx z zz; exact w_i32 (by omega) (by omega)
      have hm := mn_k (b := Int64.toInt32 x3) (show Int32.toInt 6 = 6 by decide)
      refine dOk_L (fun q8 e8 => dOk_some ?_)
      show aT 50 q8 = unp p1.toInt
      have w4 : q8.1 50 4 = qa.1 50 4 := by rw [e8]; exact cui_n (by decide)
      have w3 : q8.1 50 3 = qa.1 50 3 := by rw [e8]; exact cui_n (by decide)
      have wR : q8.1 51 = qa.1 51 := by rw [e8]; exact cui_o (by decide)
      have wH : q8.1 52 = qa.1 52 := by rw [e8]; exact cui_o (by decide)
      have w2 : Int32.toInt (q8.1 50 2) = if dq p1.toInt 0 < 6 then dq p1.toInt 0 else 6 := by
        rw [e8, cui_e]
        by_cases c6 : dq p1.toInt 0 < 6
        · rw [if_pos c6]; clear a0 a1 a4 a5 hmx zz; omega
        · rw [if_neg c6]; clear a0 a1 a4 a5 hmx zz; omega
      refine Prod.ext w2 (Prod.ext ?_ (Prod.ext ?_ (Prod.ext ?_ ?_)))
      · show i6 (q8.1 51) = fun i => if i < 6 then dq p1.toInt (i + 1) / 2 % 8 else 0
        rw [wR]
        funext i
        by_cases ci : i < 6
        · rw [if_pos ci, i6_l ci]; exact (a5 i (by clear a0 a1 a4 a5 hmx; omega) ci).1
        · rw [if_neg ci, i6_0 ci]
      · show i6 (q8.1 52) = fun i => if i < 6 then dq p1.toInt (i + 1) % 2 else 0
        rw [wH]
        funext i
        by_cases ci : i < 6
        · rw [if_pos ci, i6_l ci]; exact (a5 i (by clear a0 a1 a4 a5 hmx; omega) ci).2
        · rw [if_neg ci, i6_0 ci]
      · show Int32.toInt (q8.1 50 3) = _
        rw [w3]; exact a1
      · show Int32.toInt (q8.1 50 4) = _
        rw [w4]; exact a0
    · have n5 := cl_eq c
      have i6 : x5.toInt < 6 := by clear a0 a1 a4 a5 hmx; omega
      have nb : Int32.toNatClampNeg x5 < 6 := by clear a0 a1 a4 a5 hmx; omega
      have t1 : Int32.toInt (x5 + (-1)) = x5.toInt + (-1) := by clear a0 a1 a4 a5 hmx; exact ti_add rfl (by decide) (by omega) (by omega)
      have t2 : -1 ≤ Int32.toInt (x5 + (-1)) := by clear a0 a1 a4 a5 hmx; omega
      have t3 : Int32.toInt (x5 + (-1)) ≤ 5 := by clear a0 a1 a4 a5 hmx; omega
      have t4 : ∀ m : Nat, (m : Int) = Int32.toInt (x5 + (-1)) + 1 → m = Int32.toNatClampNeg x5 := by clear a0 a1 a4 a5 hmx; intro m hm; omega
      have t5 : ∀ i : Nat, Int32.toInt (x5 + (-1)) < (i : Int) → ¬ i = Int32.toNatClampNeg x5 → x5.toInt < (i : Int) := by clear a0 a1 a4 a5 hmx; intro i hi ci; omega
      have t6 : (Int32.toInt (x5 + (-1)) + 1).toNat < (Int32.toInt x5 + 1).toNat := by clear a0 a1 a4 a5 hmx; omega
      have z := a4 (Int32.toNatClampNeg x5 + 1) (by clear a0 a1 a4 a5 hmx; omega)
      have z1 := dq_s p1.toInt (Int32.toNatClampNeg x5) nb
      have z0 : 0 ≤ x3.toInt := by rw [z]; exact dq_0 hp0 _
      rw [← z] at z1
      have p4 : (2 : Int) ^ 4 = 16 := by decide
      have p1' : (2 : Int) ^ 1 = 2 := by decide
      have s4 := us_4 x3
      have s1 := us_1 x3
      rw [p4] at s4
      rw [p1'] at s1
      have s0 : 0 ≤ (x3 >>> (Int32.toInt64 (1 : Int32) &&& 63)).toInt := by rw [s1]; exact Int.ediv_nonneg z0 (by decide)
      have u1 : (Int64.toInt32 (x3 &&& 1)).toInt = x3.toInt % 2 := w_a1 z0
      have u7 : (Int64.toInt32 ((x3 >>> (Int32.toInt64 (1 : Int32) &&& 63)) &&& 7)).toInt = x3.toInt / 2 % 8 := by rw [w_a3 s0, s1]
      refine dOk_G (dg_ok c i6) (dOk_L (fun q5 e5 => dOk_G (dg_ok c i6) (dOk_L (fun q7 e7 => ?_))))
      refine hk31 (q7, x3 >>> (Int32.toInt64 (4 : Int32) &&& 63), x5 + (-1)) ⟨?_, ?_, ?_, ?_, fun m hm => ?_, fun i hi h6 => ?_⟩ ?_
      · show Int32.toInt (q7.1 50 4) = _
        rw [e7, cui_o (by decide), e5, cui_o (by decide)]; exact a0
      · show Int32.toInt (q7.1 50 3) = _
        rw [e7, cui_o (by decide), e5, cui_o (by decide)]; exact a1
      · exact t2
      · exact t3
      · replace hm : (m : Int) = Int32.toInt (x5 + (-1)) + 1 := hm
        show (x3 >>> (Int32.toInt64 (4 : Int32) &&& 63)).toInt = _
        rw [s4, t4 m hm, z1]
      · replace hi : Int32.toInt (x5 + (-1)) < (i : Int) := hi
        show Int32.toInt (q7.1 51 i) = _ ∧ Int32.toInt (q7.1 52 i) = _
        have r1 : q7.1 52 i = q5.1 52 i := by rw [e7, cui_o (by decide)]
        have r2 : q5.1 51 = qa.1 51 := by rw [e5]; exact cui_o (by decide)
        by_cases ci : i = Int32.toNatClampNeg x5
        · subst ci
          rw [r1, e7, e5, cui_e, cui_e]
          rw [← z]
          exact ⟨u7, u1⟩
        · rw [r1, e7, cui_n ci, r2, e5, cui_n ci]
          exact a5 i (t5 i hi ci) h6
      · exact t6
  · replace hm : (m : Int) = Int32.toInt 5 + 1 := hm
    show (p1 >>> (Int32.toInt64 (24 : Int32) &&& 63)).toInt = _
    rw [s24, show m = 6 by omega]
    rfl
theorem ok2_X8_unpack_s57 (q : dK) (p1 : Int64) (hp0 : 0 ≤ p1.toInt) : dOk (zX8_unpack_s57 q p1) (fun (o : dK) => aT 57 o = unp p1.toInt) := by
  have hmx := p1.toInt_lt
  unfold zX8_unpack_s57
  refine dOk_L (fun q1 e1 => dOk_L (fun v2 e2 => dOk_L (fun q3 e3 => ?_)))
  have y4 : Int32.toInt (q3.1 57 4) = p1.toInt % 1024 := by rw [e3, cui_n (by decide), e1, cui_e]; exact w_a10 hp0
  have y3 : Int32.toInt (q3.1 57 3) = p1.toInt / 1024 % 16384 := by
    have z := us_10 p1
    rw [e3, cui_e, e2, w_a14 (by omega), z]
    rfl
  have s24 := us_24 p1
  have d0 : Int32.toInt 0 = 0 := by decide
  have d5 : Int32.toInt 5 = 5 := by decide
  unfold zX8_unpack_s57_31
  refine dFix_ok (fun (a : dK × Int64 × Int32) => Int32.toInt (a.1.1 57 4) = p1.toInt % 1024 ∧ Int32.toInt (a.1.1 57 3) = p1.toInt / 1024 % 16384 ∧ -1 ≤ a.2.2.toInt ∧ a.2.2.toInt ≤ 5 ∧ (∀ m : Nat, (m : Int) = a.2.2.toInt + 1 → a.2.1.toInt = dq p1.toInt m) ∧ (∀ i : Nat, a.2.2.toInt < (i : Int) → i < 6 → Int32.toInt (a.1.1 58 i) = dq p1.toInt (i + 1) / 2 % 8 ∧ Int32.toInt (a.1.1 59 i) = dq p1.toInt (i + 1) % 2)) (fun (a : dK × Int64 × Int32) => (a.2.2.toInt + 1).toNat) ?_ _ ⟨y4, y3, by show -1 ≤ Int32.toInt 5; omega, by show Int32.toInt 5 ≤ 5; omega, fun m hm => ?_, fun i hi h6 => absurd hi (by show ¬ Int32.toInt 5 < (i : Int); omega)⟩ _ (dF_gt (by show (Int32.toInt 5 + 1).toNat < 1000000000000; decide))
  · clear s24 y4 y3 e1 e2 e3
    intro a ha k31 hk31
    obtain ⟨qa, x3, x5⟩ := a
    obtain ⟨a0, a1, a2, a3, a4, a5⟩ := ha
    replace a0 : Int32.toInt (qa.1 57 4) = p1.toInt % 1024 := a0
    replace a1 : Int32.toInt (qa.1 57 3) = p1.toInt / 1024 % 16384 := a1
    replace a2 : -1 ≤ x5.toInt := a2
    replace a3 : x5.toInt ≤ 5 := a3
    replace a4 : ∀ m : Nat, (m : Int) = x5.toInt + 1 → x3.toInt = dq p1.toInt m := a4
    replace a5 : ∀ i : Nat, x5.toInt < (i : Int) → i < 6 → Int32.toInt (qa.1 58 i) = dq p1.toInt (i + 1) / 2 % 8 ∧ Int32.toInt (qa.1 59 i) = dq p1.toInt (i + 1) % 2 := a5
    show dOk (zX8_unpack_s57_31b (fun q x3 x5 => k31 (q, x3, x5)) qa x3 x5) _
    unfold zX8_unpack_s57_31b
    refine dOk_lt rfl d0 (fun c => ?_) (fun c => ?_)
    · have z : x3.toInt = dq p1.toInt 0 := a4 0 (by clear a0 a1 a4 a5 hmx; omega)
      have zz : dq p1.toInt 0 = p1.toInt / 281474976710656 := rfl
      have hb : 0 ≤ x3.toInt ∧ x3.toInt < 65536 := by rw [z, zz]; clear a0 a1 a4 a5 z; omega
      have e6 : (Int64.toInt32 x3).toInt = x3.toInt := by clear a0 a1 a4 a5 hmx z zz; exact w_i32 (by omega) (by omega)
      have hm := mn_k (b := Int64.toInt32 x3) (show Int32.toInt 6 = 6 by decide)
      refine dOk_L (fun q8 e8 => dOk_some ?_)
      show aT 57 q8 = unp p1.toInt
      have w4 : q8.1 57 4 = qa.1 57 4 := by rw [e8]; exact cui_n (by decide)
      have w3 : q8.1 57 3 = qa.1 57 3 := by rw [e8]; exact cui_n (by decide)
      have wR : q8.1 58 = qa.1 58 := by rw [e8]; exact cui_o (by decide)
      have wH : q8.1 59 = qa.1 59 := by rw [e8]; exact cui_o (by decide)
      have w2 : Int32.toInt (q8.1 57 2) = if dq p1.toInt 0 < 6 then dq p1.toInt 0 else 6 := by
        rw [e8, cui_e]
        by_cases c6 : dq p1.toInt 0 < 6
        · rw [if_pos c6]; clear a0 a1 a4 a5 hmx zz; omega
        · rw [if_neg c6]; clear a0 a1 a4 a5 hmx zz; omega
      refine Prod.ext w2 (Prod.ext ?_ (Prod.ext ?_ (Prod.ext ?_ ?_)))
      · show i6 (q8.1 58) = fun i => if i < 6 then dq p1.toInt (i + 1) / 2 % 8 else 0
        rw [wR]
        funext i
        by_cases ci : i < 6
        · rw [if_pos ci, i6_l ci]; exact (a5 i (by clear a0 a1 a4 a5 hmx; omega) ci).1
        · rw [if_neg ci, i6_0 ci]
      · show i6 (q8.1 59) = fun i => if i < 6 then dq p1.toInt (i + 1) % 2 else 0
        rw [wH]
        funext i
        by_cases ci : i < 6
        · rw [if_pos ci, i6_l ci]; exact (a5 i (by clear a0 a1 a4 a5 hmx; omega) ci).2
        · rw [if_neg ci, i6_0 ci]
      · show Int32.toInt (q8.1 57 3) = _
        rw [w3]; exact a1
      · show Int32.toInt (q8.1 57 4) = _
        rw [w4]; exact a0
    · have n5 := cl_eq c
      have i6 : x5.toInt < 6 := by clear a0 a1 a4 a5 hmx; omega
      have nb : Int32.toNatClampNeg x5 < 6 := by clear a0 a1 a4 a5 hmx; omega
      have t1 : Int32.toInt (x5 + (-1)) = x5.toInt + (-1) := by clear a0 a1 a4 a5 hmx; exact ti_add rfl (by decide) (by omega) (by omega)
      have t2 : -1 ≤ Int32.toInt (x5 + (-1)) := by clear a0 a1 a4 a5 hmx; omega
      have t3 : Int32.toInt (x5 + (-1)) ≤ 5 := by clear a0 a1 a4 a5 hmx; omega
      have t4 : ∀ m : Nat, (m : Int) = Int32.toInt (x5 + (-1)) + 1 → m = Int32.toNatClampNeg x5 := by clear a0 a1 a4 a5 hmx; intro m hm; omega
      have t5 : ∀ i : Nat, Int32.toInt (x5 + (-1)) < (i : Int) → ¬ i = Int32.toNatClampNeg x5 → x5.toInt < (i : Int) := by clear a0 a1 a4 a5 hmx; intro i hi ci; omega
      have t6 : (Int32.toInt (x5 + (-1)) + 1).toNat < (Int32.toInt x5 + 1).toNat := by clear a0 a1 a4 a5 hmx; omega
      have z := a4 (Int32.toNatClampNeg x5 + 1) (by clear a0 a1 a4 a5 hmx; omega)
      have z1 := dq_s p1.toInt (Int32.toNatClampNeg x5) nb
      have z0 : 0 ≤ x3.toInt := by rw [z]; exact dq_0 hp0 _
      rw [← z] at z1
      have p4 : (2 : Int) ^ 4 = 16 := by decide
      have p1' : (2 : Int) ^ 1 = 2 := by decide
      have s4 := us_4 x3
      have s1 := us_1 x3
      rw [p4] at s4
      rw [p1'] at s1
      have s0 : 0 ≤ (x3 >>> (Int32.toInt64 (1 : Int32) &&& 63)).toInt := by rw [s1]; exact Int.ediv_nonneg z0 (by decide)
      have u1 : (Int64.toInt32 (x3 &&& 1)).toInt = x3.toInt % 2 := w_a1 z0
      have u7 : (Int64.toInt32 ((x3 >>> (Int32.toInt64 (1 : Int32) &&& 63)) &&& 7)).toInt = x3.toInt / 2 % 8 := by rw [w_a3 s0, s1]
      refine dOk_G (dg_ok c i6) (dOk_L (fun q5 e5 => dOk_G (dg_ok c i6) (dOk_L (fun q7 e7 => ?_))))
      refine hk31 (q7, x3 >>> (Int32.toInt64 (4 : Int32) &&& 63), x5 + (-1)) ⟨?_, ?_, ?_, ?_, fun m hm => ?_, fun i hi h6 => ?_⟩ ?_
      · show Int32.toInt (q7.1 57 4) = _
        rw [e7, cui_o (by decide), e5, cui_o (by decide)]; exact a0
      · show Int32.toInt (q7.1 57 3) = _
        rw [e7, cui_o (by decide), e5, cui_o (by decide)]; exact a1
      · exact t2
      · exact t3
      · replace hm : (m : Int) = Int32.toInt (x5 + (-1)) + 1 := hm
        show (x3 >>> (Int32.toInt64 (4 : Int32) &&& 63)).toInt = _
        rw [s4, t4 m hm, z1]
      · replace hi : Int32.toInt (x5 + (-1)) < (i : Int) := hi
        show Int32.toInt (q7.1 58 i) = _ ∧ Int32.toInt (q7.1 59 i) = _
        have r1 : q7.1 59 i = q5.1 59 i := by rw [e7, cui_o (by decide)]
        have r2 : q5.1 58 = qa.1 58 := by rw [e5]; exact cui_o (by decide)
        by_cases ci : i = Int32.toNatClampNeg x5
        · subst ci
          rw [r1, e7, e5, cui_e, cui_e]
          rw [← z]
          exact ⟨u7, u1⟩
        · rw [r1, e7, cui_n ci, r2, e5, cui_n ci]
          exact a5 i (t5 i hi ci) h6
      · exact t6
  · replace hm : (m : Int) = Int32.toInt 5 + 1 := hm
    show (p1 >>> (Int32.toInt64 (24 : Int32) &&& 63)).toInt = _
    rw [s24, show m = 6 by omega]
    rfl
