theorem ok2_X8_pack_s2 (q : dK) (hT : TC q) : dOk (zX8_pack_s2 q) (fun (o : Int64 × dK) => o.2 = q ∧ o.1.toInt = pk (aT 2 q)) := by
  have f2 : 0 ≤ Int32.toInt (q.1 2 2) ∧ Int32.toInt (q.1 2 2) ≤ 6 := rg_2_2 hT
  have f3 : 0 ≤ Int32.toInt (q.1 2 3) ∧ Int32.toInt (q.1 2 3) ≤ 16383 := rg_2_3 hT
  have f4 : 0 ≤ Int32.toInt (q.1 2 4) ∧ Int32.toInt (q.1 2 4) ≤ 1023 := rg_2_4 hT
  have e0 : (Int32.toInt64 (q.1 2 2)).toInt = Int32.toInt (q.1 2 2) := Int32.toInt_toInt64 _
  have d0 : Int32.toInt 0 = 0 := by decide
  unfold zX8_pack_s2 zX8_pack_s2_8
  refine dFix_ok (fun (a : dK × Int64 × Int32) => a.1 = q ∧ 0 ≤ a.2.2.toInt ∧ a.2.2.toInt ≤ 6 ∧ 0 ≤ a.2.1.toInt ∧ a.2.1.toInt < pkB a.2.2.toInt ∧ a.2.1.toInt = pkN (aT 2 q) (Int32.toNatClampNeg a.2.2)) (fun (a : dK × Int64 × Int32) => (6 - a.2.2.toInt).toNat) ?_ _ ⟨rfl, by show 0 ≤ Int32.toInt 0; decide, by show Int32.toInt 0 ≤ 6; decide, by show 0 ≤ (Int32.toInt64 (q.1 2 2)).toInt; omega, ?_, e0⟩ _ (dF_gt (by show (6 - Int32.toInt 0).toNat < 1000000000000; decide))
  · intro a ha k8 hk8
    obtain ⟨qa, x1, x3⟩ := a
    obtain ⟨a0, a1, a2, a3, a4, a5⟩ := ha
    replace a0 : qa = q := a0
    replace a1 : 0 ≤ x3.toInt := a1
    replace a2 : x3.toInt ≤ 6 := a2
    replace a3 : 0 ≤ x1.toInt := a3
    replace a4 : x1.toInt < pkB x3.toInt := a4
    replace a5 : x1.toInt = pkN (aT 2 q) (Int32.toNatClampNeg x3) := a5
    subst a0
    show dOk (zX8_pack_s2_8b (fun q x1 x3 => k8 (q, x1, x3)) qa x1 x3) _
    have hb : x1.toInt < 134217728 := pkB_le a4
    have n3 := cl_eq a1
    unfold zX8_pack_s2_8b
    refine dOk_le (by decide : Int32.toInt 6 = 6) rfl (fun c => ?_) (fun c => ?_)
    · refine dOk_L (fun v1 e1 => dOk_L (fun v2 e2 => dOk_some ⟨rfl, ?_⟩))
      show v2.toInt = pk (aT 2 qa)
      rw [e2, e1, pk_end2 a3 hb f3.1 f3.2 f4.1 f4.2, a5, show Int32.toNatClampNeg x3 = 6 by omega]
      rfl
    · refine dOk_G (dg_ok (by omega) (by omega)) (dOk_L (fun v4 e4 => dOk_L (fun v5 e5 => dOk_G (dg_ok (by omega) (by omega)) (dOk_L (fun v7 e7 => ?_)))))
      have g4 : 0 ≤ Int32.toInt v4 ∧ Int32.toInt v4 ≤ 7 := by rw [e4]; exact rg_3 hT _
      have g7 : 0 ≤ Int32.toInt v7 ∧ Int32.toInt v7 ≤ 1 := by rw [e7]; exact rg_4 hT _
      have es := pk_step (x := x1) (r := v4) (h := v7) a3 hb g4.1 g4.2 g7.1 g7.2
      rw [← e5] at es
      have t1 : Int32.toInt (x3 + 1) = x3.toInt + 1 := ti_add rfl (by decide) (by omega) (by omega)
      have n4 := cl_eq (i := x3 + 1) (by omega)
      have nn : Int32.toNatClampNeg (x3 + 1) = Int32.toNatClampNeg x3 + 1 := by omega
      refine hk8 (qa, v5 ||| Int32.toInt64 v7, x3 + 1) ⟨rfl, ?_, ?_, ?_, ?_, ?_⟩ ?_
      · show 0 ≤ Int32.toInt (x3 + 1); omega
      · show Int32.toInt (x3 + 1) ≤ 6; omega
      · show 0 ≤ (v5 ||| Int32.toInt64 v7).toInt; omega
      · show (v5 ||| Int32.toInt64 v7).toInt < pkB (Int32.toInt (x3 + 1))
        rw [t1, es]
        exact pkB_s a1 (by omega) a4 g4.2 g7.2
      · show (v5 ||| Int32.toInt64 v7).toInt = pkN (aT 2 qa) (Int32.toNatClampNeg (x3 + 1))
        rw [nn, es, a5, e4, e7]
        show _ = 16 * pkN (aT 2 qa) (Int32.toNatClampNeg x3) + 2 * i6 (qa.1 3) (Int32.toNatClampNeg x3) + i6 (qa.1 4) (Int32.toNatClampNeg x3)
        rw [i6_l (by omega), i6_l (by omega)]
      · show (6 - Int32.toInt (x3 + 1)).toNat < (6 - Int32.toInt x3).toNat
        omega
  · show (Int32.toInt64 (q.1 2 2)).toInt < pkB (Int32.toInt 0)
    rw [d0, e0]
    show Int32.toInt (q.1 2 2) < 8
    omega
theorem ok2_X8_pack_s50 (q : dK) (hT : TC q) : dOk (zX8_pack_s50 q) (fun (o : Int64 × dK) => o.2 = q ∧ o.1.toInt = pk (aT 50 q)) := by
  have f2 : 0 ≤ Int32.toInt (q.1 50 2) ∧ Int32.toInt (q.1 50 2) ≤ 6 := rg_50_2 hT
  have f3 : 0 ≤ Int32.toInt (q.1 50 3) ∧ Int32.toInt (q.1 50 3) ≤ 16383 := rg_50_3 hT
  have f4 : 0 ≤ Int32.toInt (q.1 50 4) ∧ Int32.toInt (q.1 50 4) ≤ 1023 := rg_50_4 hT
  have e0 : (Int32.toInt64 (q.1 50 2)).toInt = Int32.toInt (q.1 50 2) := Int32.toInt_toInt64 _
  have d0 : Int32.toInt 0 = 0 := by decide
  unfold zX8_pack_s50 zX8_pack_s50_8
  refine dFix_ok (fun (a : dK × Int64 × Int32) => a.1 = q ∧ 0 ≤ a.2.2.toInt ∧ a.2.2.toInt ≤ 6 ∧ 0 ≤ a.2.1.toInt ∧ a.2.1.toInt < pkB a.2.2.toInt ∧ a.2.1.toInt = pkN (aT 50 q) (Int32.toNatClampNeg a.2.2)) (fun (a : dK × Int64 × Int32) => (6 - a.2.2.toInt).toNat) ?_ _ ⟨rfl, by show 0 ≤ Int32.toInt 0; decide, by show Int32.toInt 0 ≤ 6; decide, by show 0 ≤ (Int32.toInt64 (q.1 50 2)).toInt; omega, ?_, e0⟩ _ (dF_gt (by show (6 - Int32.toInt 0).toNat < 1000000000000; decide))
  · intro a ha k8 hk8
    obtain ⟨qa, x1, x3⟩ := a
    obtain ⟨a0, a1, a2, a3, a4, a5⟩ := ha
    replace a0 : qa = q := a0
    replace a1 : 0 ≤ x3.toInt := a1
    replace a2 : x3.toInt ≤ 6 := a2
    replace a3 : 0 ≤ x1.toInt := a3
    replace a4 : x1.toInt < pkB x3.toInt := a4
    replace a5 : x1.toInt = pkN (aT 50 q) (Int32.toNatClampNeg x3) := a5
    subst a0
    show dOk (zX8_pack_s50_8b (fun q x1 x3 => k8 (q, x1, x3)) qa x1 x3) _
    have hb : x1.toInt < 134217728 := pkB_le a4
    have n3 := cl_eq a1
    unfold zX8_pack_s50_8b
    refine dOk_le (by decide : Int32.toInt 6 = 6) rfl (fun c => ?_) (fun c => ?_)
    · refine dOk_L (fun v1 e1 => dOk_L (fun v2 e2 => dOk_some ⟨rfl, ?_⟩))
      show v2.toInt = pk (aT 50 qa)
      rw [e2, e1, pk_end2 a3 hb f3.1 f3.2 f4.1 f4.2, a5, show Int32.toNatClampNeg x3 = 6 by omega]
      rfl
    · refine dOk_G (dg_ok (by omega) (by omega)) (dOk_L (fun v4 e4 => dOk_L (fun v5 e5 => dOk_G (dg_ok (by omega) (by omega)) (dOk_L (fun v7 e7 => ?_)))))
      have g4 : 0 ≤ Int32.toInt v4 ∧ Int32.toInt v4 ≤ 7 := by rw [e4]; exact rg_51 hT _
      have g7 : 0 ≤ Int32.toInt v7 ∧ Int32.toInt v7 ≤ 1 := by rw [e7]; exact rg_52 hT _
      have es := pk_step (x := x1) (r := v4) (h := v7) a3 hb g4.1 g4.2 g7.1 g7.2
      rw [← e5] at es
      have t1 : Int32.toInt (x3 + 1) = x3.toInt + 1 := ti_add rfl (by decide) (by omega) (by omega)
      have n4 := cl_eq (i := x3 + 1) (by omega)
      have nn : Int32.toNatClampNeg (x3 + 1) = Int32.toNatClampNeg x3 + 1 := by omega
      refine hk8 (qa, v5 ||| Int32.toInt64 v7, x3 + 1) ⟨rfl, ?_, ?_, ?_, ?_, ?_⟩ ?_
      · show 0 ≤ Int32.toInt (x3 + 1); omega
      · show Int32.toInt (x3 + 1) ≤ 6; omega
      · show 0 ≤ (v5 ||| Int32.toInt64 v7).toInt; omega
      · show (v5 ||| Int32.toInt64 v7).toInt < pkB (Int32.toInt (x3 + 1))
        rw [t1, es]
        exact pkB_s a1 (by omega) a4 g4.2 g7.2
      · show (v5 ||| Int32.toInt64 v7).toInt = pkN (aT 50 qa) (Int32.toNatClampNeg (x3 + 1))
        rw [nn, es, a5, e4, e7]
        show _ = 16 * pkN (aT 50 qa) (Int32.toNatClampNeg x3) + 2 * i6 (qa.1 51) (Int32.toNatClampNeg x3) + i6 (qa.1 52) (Int32.toNatClampNeg x3)
        rw [i6_l (by omega), i6_l (by omega)]
      · show (6 - Int32.toInt (x3 + 1)).toNat < (6 - Int32.toInt x3).toNat
        omega
  · show (Int32.toInt64 (q.1 50 2)).toInt < pkB (Int32.toInt 0)
    rw [d0, e0]
    show Int32.toInt (q.1 50 2) < 8
    omega
theorem ok2_X8_pack_s57 (q : dK) (hT : TC q) : dOk (zX8_pack_s57 q) (fun (o : Int64 × dK) => o.2 = q ∧ o.1.toInt = pk (aT 57 q)) := by
  have f2 : 0 ≤ Int32.toInt (q.1 57 2) ∧ Int32.toInt (q.1 57 2) ≤ 6 := rg_57_2 hT
  have f3 : 0 ≤ Int32.toInt (q.1 57 3) ∧ Int32.toInt (q.1 57 3) ≤ 16383 := rg_57_3 hT
  have f4 : 0 ≤ Int32.toInt (q.1 57 4) ∧ Int32.toInt (q.1 57 4) ≤ 1023 := rg_57_4 hT
  have e0 : (Int32.toInt64 (q.1 57 2)).toInt = Int32.toInt (q.1 57 2) := Int32.toInt_toInt64 _
  have d0 : Int32.toInt 0 = 0 := by decide
  unfold zX8_pack_s57 zX8_pack_s57_8
  refine dFix_ok (fun (a : dK × Int64 × Int32) => a.1 = q ∧ 0 ≤ a.2.2.toInt ∧ a.2.2.toInt ≤ 6 ∧ 0 ≤ a.2.1.toInt ∧ a.2.1.toInt < pkB a.2.2.toInt ∧ a.2.1.toInt = pkN (aT 57 q) (Int32.toNatClampNeg a.2.2)) (fun (a : dK × Int64 × Int32) => (6 - a.2.2.toInt).toNat) ?_ _ ⟨rfl, by show 0 ≤ Int32.toInt 0; decide, by show Int32.toInt 0 ≤ 6; decide, by show 0 ≤ (Int32.toInt64 (q.1 57 2)).toInt; omega, ?_, e0⟩ _ (dF_gt (by show (6 - Int32.toInt 0).toNat < 1000000000000; decide))
  · intro a ha k8 hk8
    obtain ⟨qa, x1, x3⟩ := a
    obtain ⟨a0, a1, a2, a3, a4, a5⟩ := ha
    replace a0 : qa = q := a0
    replace a1 : 0 ≤ x3.toInt := a1
    replace a2 : x3.toInt ≤ 6 := a2
    replace a3 : 0 ≤ x1.toInt := a3
    replace a4 : x1.toInt < pkB x3.toInt := a4
    replace a5 : x1.toInt = pkN (aT 57 q) (Int32.toNatClampNeg x3) := a5
    subst a0
    show dOk (zX8_pack_s57_8b (fun q x1 x3 => k8 (q, x1, x3)) qa x1 x3) _
    have hb : x1.toInt < 134217728 := pkB_le a4
    have n3 := cl_eq a1
    unfold zX8_pack_s57_8b
    refine dOk_le (by decide : Int32.toInt 6 = 6) rfl (fun c => ?_) (fun c => ?_)
    · refine dOk_L (fun v1 e1 => dOk_L (fun v2 e2 => dOk_some ⟨rfl, ?_⟩))
      show v2.toInt = pk (aT 57 qa)
      rw [e2, e1, pk_end2 a3 hb f3.1 f3.2 f4.1 f4.2, a5, show Int32.toNatClampNeg x3 = 6 by omega]
      rfl
    · refine dOk_G (dg_ok (by omega) (by omega)) (dOk_L (fun v4 e4 => dOk_L (fun v5 e5 => dOk_G (dg_ok (by omega) (by omega)) (dOk_L (fun v7 e7 => ?_)))))
      have g4 : 0 ≤ Int32.toInt v4 ∧ Int32.toInt v4 ≤ 7 := by rw [e4]; exact rg_58 hT _
      have g7 : 0 ≤ Int32.toInt v7 ∧ Int32.toInt v7 ≤ 1 := by rw [e7]; exact rg_59 hT _
      have es := pk_step (x := x1) (r := v4) (h := v7) a3 hb g4.1 g4.2 g7.1 g7.2
      rw [← e5] at es
      have t1 : Int32.toInt (x3 + 1) = x3.toInt + 1 := ti_add rfl (by decide) (by omega) (by omega)
      have n4 := cl_eq (i := x3 + 1) (by omega)
      have nn : Int32.toNatClampNeg (x3 + 1) = Int32.toNatClampNeg x3 + 1 := by omega
      refine hk8 (qa, v5 ||| Int32.toInt64 v7, x3 + 1) ⟨rfl, ?_, ?_, ?_, ?_, ?_⟩ ?_
      · show 0 ≤ Int32.toInt (x3 + 1); omega
      · show Int32.toInt (x3 + 1) ≤ 6; omega
      · show 0 ≤ (v5 ||| Int32.toInt64 v7).toInt; omega
      · show (v5 ||| Int32.toInt64 v7).toInt < pkB (Int32.toInt (x3 + 1))
        rw [t1, es]
        exact pkB_s a1 (by omega) a4 g4.2 g7.2
      · show (v5 ||| Int32.toInt64 v7).toInt = pkN (aT 57 qa) (Int32.toNatClampNeg (x3 + 1))
        rw [nn, es, a5, e4, e7]
        show _ = 16 * pkN (aT 57 qa) (Int32.toNatClampNeg x3) + 2 * i6 (qa.1 58) (Int32.toNatClampNeg x3) + i6 (qa.1 59) (Int32.toNatClampNeg x3)
        rw [i6_l (by omega), i6_l (by omega)]
      · show (6 - Int32.toInt (x3 + 1)).toNat < (6 - Int32.toInt x3).toNat
        omega
  · show (Int32.toInt64 (q.1 57 2)).toInt < pkB (Int32.toInt 0)
    rw [d0, e0]
    show Int32.toInt (q.1 57 2) < 8
    omega
