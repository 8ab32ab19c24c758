theorem ok_X8_pack_s2 (q : dK) (hT : TC q) : dOk (zX8_pack_s2 q) (fun (o : Int64 × dK) => (o.2 = q) ∧ (0 ≤ o.1.toInt)) := by
  have f2 : 0 ≤ Int32.toInt (q.1 2 2) ∧ Int32.toInt (q.1 2 2) ≤ 6 := rg_2_2 hT
  have f3 : 0 ≤ Int32.toInt (q.1 2 3) ∧ Int32.toInt (q.1 2 3) ≤ 16383 := rg_2_3 hT
  have f4 : 0 ≤ Int32.toInt (q.1 2 4) ∧ Int32.toInt (q.1 2 4) ≤ 1023 := rg_2_4 hT
  have e0 : (Int32.toInt64 (q.1 2 2)).toInt = Int32.toInt (q.1 2 2) := Int32.toInt_toInt64 _
  unfold zX8_pack_s2 zX8_pack_s2_8
  refine dFix_ok (fun (a : dK × Int64 × Int32) => a.1 = q ∧ 0 ≤ a.2.2.toInt ∧ a.2.2.toInt ≤ 6 ∧ 0 ≤ a.2.1.toInt ∧ a.2.1.toInt < pkB a.2.2.toInt) (fun (a : dK × Int64 × Int32) => (6 - a.2.2.toInt).toNat) ?_ _ ⟨rfl, by show 0 ≤ Int32.toInt 0; decide, by show Int32.toInt 0 ≤ 6; decide, by show 0 ≤ (Int32.toInt64 (q.1 2 2)).toInt; omega, ?_⟩ _ (dF_gt (by show (6 - Int32.toInt 0).toNat < 1000000000000; decide))
  · intro a ha k8 hk8
    obtain ⟨qa, x1, x3⟩ := a
    obtain ⟨a0, a1, a2, a3, a4⟩ := ha
    replace a0 : qa = q := a0
    replace a1 : 0 ≤ x3.toInt := a1
    replace a2 : x3.toInt ≤ 6 := a2
    replace a3 : 0 ≤ x1.toInt := a3
    replace a4 : x1.toInt < pkB x3.toInt := a4
    subst a0
    show dOk (zX8_pack_s2_8b (fun q x1 x3 => k8 (q, x1, x3)) qa x1 x3) _
    have hb : x1.toInt < 134217728 := pkB_le a4
    unfold zX8_pack_s2_8b
    refine dOk_le (by decide : Int32.toInt 6 = 6) rfl (fun c => ?_) (fun c => ?_)
    · refine dOk_L (fun v1 e1 => dOk_L (fun v2 e2 => dOk_some ⟨rfl, ?_⟩))
      show 0 ≤ v2.toInt
      rw [e2, e1]
      exact pk_end a3 hb f3.1 f3.2 f4.1 f4.2
    · refine dOk_G (dg_ok (by omega) (by omega)) (dOk_L (fun v4 e4 => dOk_L (fun v5 e5 => dOk_G (dg_ok (by omega) (by omega)) (dOk_L (fun v7 e7 => ?_)))))
      have g4 : 0 ≤ Int32.toInt v4 ∧ Int32.toInt v4 ≤ 7 := by rw [e4]; exact rg_3 hT _
      have g7 : 0 ≤ Int32.toInt v7 ∧ Int32.toInt v7 ≤ 1 := by rw [e7]; exact rg_4 hT _
      have es := pk_step (x := x1) (r := v4) (h := v7) a3 hb g4.1 g4.2 g7.1 g7.2
      rw [← e5] at es
      have t1 : Int32.toInt (x3 + 1) = x3.toInt + 1 := ti_add rfl (by decide) (by omega) (by omega)
      refine hk8 (qa, v5 ||| Int32.toInt64 v7, x3 + 1) ⟨rfl, ?_, ?_, ?_, ?_⟩ ?_
      · show 0 ≤ Int32.toInt (x3 + 1); omega
      · show Int32.toInt (x3 + 1) ≤ 6; omega
      · show 0 ≤ (v5 ||| Int32.toInt64 v7).toInt; omega
      · show (v5 ||| Int32.toInt64 v7).toInt < pkB (Int32.toInt (x3 + 1))
        rw [t1, es]
        exact pkB_s a1 (by omega) a4 g4.2 g7.2
      · show (6 - Int32.toInt (x3 + 1)).toNat < (6 - Int32.toInt x3).toNat
        omega
  · show (Int32.toInt64 (q.1 2 2)).toInt < pkB (Int32.toInt 0)
    rw [show Int32.toInt 0 = 0 by decide, e0]
    show Int32.toInt (q.1 2 2) < 8
    omega

theorem ok_X8_pack_s50 (q : dK) (hT : TC q) : dOk (zX8_pack_s50 q) (fun (o : Int64 × dK) => (o.2 = q) ∧ (0 ≤ o.1.toInt)) := by
  have f2 : 0 ≤ Int32.toInt (q.1 50 2) ∧ Int32.toInt (q.1 50 2) ≤ 6 := rg_50_2 hT
  have f3 : 0 ≤ Int32.toInt (q.1 50 3) ∧ Int32.toInt (q.1 50 3) ≤ 16383 := rg_50_3 hT
  have f4 : 0 ≤ Int32.toInt (q.1 50 4) ∧ Int32.toInt (q.1 50 4) ≤ 1023 := rg_50_4 hT
  have e0 : (Int32.toInt64 (q.1 50 2)).toInt = Int32.toInt (q.1 50 2) := Int32.toInt_toInt64 _
  unfold zX8_pack_s50 zX8_pack_s50_8
  refine dFix_ok (fun (a : dK × Int64 × Int32) => a.1 = q ∧ 0 ≤ a.2.2.toInt ∧ a.2.2.toInt ≤ 6 ∧ 0 ≤ a.2.1.toInt ∧ a.2.1.toInt < pkB a.2.2.toInt) (fun (a : dK × Int64 × Int32) => (6 - a.2.2.toInt).toNat) ?_ _ ⟨rfl, by show 0 ≤ Int32.toInt 0; decide, by show Int32.toInt 0 ≤ 6; decide, by show 0 ≤ (Int32.toInt64 (q.1 50 2)).toInt; omega, ?_⟩ _ (dF_gt (by show (6 - Int32.toInt 0).toNat < 1000000000000; decide))
  · intro a ha k8 hk8
    obtain ⟨qa, x1, x3⟩ := a
    obtain ⟨a0, a1, a2, a3, a4⟩ := ha
    replace a0 : qa = q := a0
    replace a1 : 0 ≤ x3.toInt := a1
    replace a2 : x3.toInt ≤ 6 := a2
    replace a3 : 0 ≤ x1.toInt := a3
    replace a4 : x1.toInt < pkB x3.toInt := a4
    subst a0
    show dOk (zX8_pack_s50_8b (fun q x1 x3 => k8 (q, x1, x3)) qa x1 x3) _
    have hb : x1.toInt < 134217728 := pkB_le a4
    unfold zX8_pack_s50_8b
    refine dOk_le (by decide : Int32.toInt 6 = 6) rfl (fun c => ?_) (fun c => ?_)
    · refine dOk_L (fun v1 e1 => dOk_L (fun v2 e2 => dOk_some ⟨rfl, ?_⟩))
      show 0 ≤ v2.toInt
      rw [e2, e1]
      exact pk_end a3 hb f3.1 f3.2 f4.1 f4.2
    · refine dOk_G (dg_ok (by omega) (by omega)) (dOk_L (fun v4 e4 => dOk_L (fun v5 e5 => dOk_G (dg_ok (by omega) (by omega)) (dOk_L (fun v7 e7 => ?_)))))
      have g4 : 0 ≤ Int32.toInt v4 ∧ Int32.toInt v4 ≤ 7 := by rw [e4]; exact rg_51 hT _
      have g7 : 0 ≤ Int32.toInt v7 ∧ Int32.toInt v7 ≤ 1 := by rw [e7]; exact rg_52 hT _
      have es := pk_step (x := x1) (r := v4) (h := v7) a3 hb g4.1 g4.2 g7.1 g7.2
      rw [← e5] at es
      have t1 : Int32.toInt (x3 + 1) = x3.toInt + 1 := ti_add rfl (by decide) (by omega) (by omega)
      refine hk8 (qa, v5 ||| Int32.toInt64 v7, x3 + 1) ⟨rfl, ?_, ?_, ?_, ?_⟩ ?_
      · show 0 ≤ Int32.toInt (x3 + 1); omega
      · show Int32.toInt (x3 + 1) ≤ 6; omega
      · show 0 ≤ (v5 ||| Int32.toInt64 v7).toInt; omega
      · show (v5 ||| Int32.toInt64 v7).toInt < pkB (Int32.toInt (x3 + 1))
        rw [t1, es]
        exact pkB_s a1 (by omega) a4 g4.2 g7.2
      · show (6 - Int32.toInt (x3 + 1)).toNat < (6 - Int32.toInt x3).toNat
        omega
  · show (Int32.toInt64 (q.1 50 2)).toInt < pkB (Int32.toInt 0)
    rw [show Int32.toInt 0 = 0 by decide, e0]
    show Int32.toInt (q.1 50 2) < 8
    omega

theorem ok_X8_pack_s57 (q : dK) (hT : TC q) : dOk (zX8_pack_s57 q) (fun (o : Int64 × dK) => (o.2 = q) ∧ (0 ≤ o.1.toInt)) := by
  have f2 : 0 ≤ Int32.toInt (q.1 57 2) ∧ Int32.toInt (q.1 57 2) ≤ 6 := rg_57_2 hT
  have f3 : 0 ≤ Int32.toInt (q.1 57 3) ∧ Int32.toInt (q.1 57 3) ≤ 16383 := rg_57_3 hT
  have f4 : 0 ≤ Int32.toInt (q.1 57 4) ∧ Int32.toInt (q.1 57 4) ≤ 1023 := rg_57_4 hT
  have e0 : (Int32.toInt64 (q.1 57 2)).toInt = Int32.toInt (q.1 57 2) := Int32.toInt_toInt64 _
  unfold zX8_pack_s57 zX8_pack_s57_8
  refine dFix_ok (fun (a : dK × Int64 × Int32) => a.1 = q ∧ 0 ≤ a.2.2.toInt ∧ a.2.2.toInt ≤ 6 ∧ 0 ≤ a.2.1.toInt ∧ a.2.1.toInt < pkB a.2.2.toInt) (fun (a : dK × Int64 × Int32) => (6 - a.2.2.toInt).toNat) ?_ _ ⟨rfl, by show 0 ≤ Int32.toInt 0; decide, by show Int32.toInt 0 ≤ 6; decide, by show 0 ≤ (Int32.toInt64 (q.1 57 2)).toInt; omega, ?_⟩ _ (dF_gt (by show (6 - Int32.toInt 0).toNat < 1000000000000; decide))
  · intro a ha k8 hk8
    obtain ⟨qa, x1, x3⟩ := a
    obtain ⟨a0, a1, a2, a3, a4⟩ := ha
    replace a0 : qa = q := a0
    replace a1 : 0 ≤ x3.toInt := a1
    replace a2 : x3.toInt ≤ 6 := a2
    replace a3 : 0 ≤ x1.toInt := a3
    replace a4 : x1.toInt < pkB x3.toInt := a4
    subst a0
    show dOk (zX8_pack_s57_8b (fun q x1 x3 => k8 (q, x1, x3)) qa x1 x3) _
    have hb : x1.toInt < 134217728 := pkB_le a4
    unfold zX8_pack_s57_8b
    refine dOk_le (by decide : Int32.toInt 6 = 6) rfl (fun c => ?_) (fun c => ?_)
    · refine dOk_L (fun v1 e1 => dOk_L (fun v2 e2 => dOk_some ⟨rfl, ?_⟩))
      show 0 ≤ v2.toInt
      rw [e2, e1]
      exact pk_end a3 hb f3.1 f3.2 f4.1 f4.2
    · refine dOk_G (dg_ok (by omega) (by omega)) (dOk_L (fun v4 e4 => dOk_L (fun v5 e5 => dOk_G (dg_ok (by omega) (by omega)) (dOk_L (fun v7 e7 => ?_)))))
      have g4 : 0 ≤ Int32.toInt v4 ∧ Int32.toInt v4 ≤ 7 := by rw [e4]; exact rg_58 hT _
      have g7 : 0 ≤ Int32.toInt v7 ∧ Int32.toInt v7 ≤ 1 := by rw [e7]; exact rg_59 hT _
      have es := pk_step (x := x1) (r := v4) (h := v7) a3 hb g4.1 g4.2 g7.1 g7.2
      rw [← e5] at es
      have t1 : Int32.toInt (x3 + 1) = x3.toInt + 1 := ti_add rfl (by decide) (by omega) (by omega)
      refine hk8 (qa, v5 ||| Int32.toInt64 v7, x3 + 1) ⟨rfl, ?_, ?_, ?_, ?_⟩ ?_
      · show 0 ≤ Int32.toInt (x3 + 1); omega
      · show Int32.toInt (x3 + 1) ≤ 6; omega
      · show 0 ≤ (v5 ||| Int32.toInt64 v7).toInt; omega
      · show (v5 ||| Int32.toInt64 v7).toInt < pkB (Int32.toInt (x3 + 1))
        rw [t1, es]
        exact pkB_s a1 (by omega) a4 g4.2 g7.2
      · show (6 - Int32.toInt (x3 + 1)).toNat < (6 - Int32.toInt x3).toNat
        omega
  · show (Int32.toInt64 (q.1 57 2)).toInt < pkB (Int32.toInt 0)
    rw [show Int32.toInt 0 = 0 by decide, e0]
    show Int32.toInt (q.1 57 2) < 8
    omega

theorem ok_X8_unpack_s2 (q : dK) (p1 : Int64) (hT : TC q) (hp0 : 0 ≤ p1.toInt) : dOk (zX8_unpack_s2 q p1) (fun (o : dK) => (TC o) ∧ (cFr [3, 4] [(2, 2), (2, 3), (2, 4)] q o)) := by
  have hmx := p1.toInt_lt
  unfold zX8_unpack_s2
  refine dOk_L (fun q1 e1 => ?_)
  have hT1 : TC q1 := by rw [e1]; exact st_2_4 hT (show (0 : Int) ≤ Int32.toInt (Int64.toInt32 (p1 &&& 1023)) from (um_10 p1).1) (show Int32.toInt (Int64.toInt32 (p1 &&& 1023)) ≤ (1023 : Int) from (um_10 p1).2)
  have hF1 : cFr [3, 4] [(2, 2), (2, 3), (2, 4)] q q1 := by rw [e1]; exact cFr.rf.f (by decide)
  refine dOk_L (fun v2 e2 => dOk_L (fun q3 e3 => ?_))
  have hT3 : TC q3 := by rw [e3, e2]; exact st_2_3 hT1 (show (0 : Int) ≤ Int32.toInt (Int64.toInt32 (_ &&& 16383)) from (um_14 _).1) (show Int32.toInt (Int64.toInt32 (_ &&& 16383)) ≤ (16383 : Int) from (um_14 _).2)
  have hF3 : cFr [3, 4] [(2, 2), (2, 3), (2, 4)] q q3 := by rw [e3]; exact hF1.f (by decide)
  have s24 := us_24 p1
  unfold zX8_unpack_s2_31
  refine dFix_ok (fun (a : dK × Int64 × Int32) => TC a.1 ∧ cFr [3, 4] [(2, 2), (2, 3), (2, 4)] q a.1 ∧ -1 ≤ a.2.2.toInt ∧ a.2.2.toInt ≤ 5 ∧ 0 ≤ a.2.1.toInt ∧ a.2.1.toInt < upB a.2.2.toInt) (fun (a : dK × Int64 × Int32) => (a.2.2.toInt + 1).toNat) ?_ _ ⟨hT3, hF3, by show -1 ≤ Int32.toInt 5; decide, by show Int32.toInt 5 ≤ 5; decide, ?_, ?_⟩ _ (dF_gt (by show (Int32.toInt 5 + 1).toNat < 1000000000000; decide))
  · clear s24
    intro a ha k31 hk31
    obtain ⟨qa, x3, x5⟩ := a
    obtain ⟨a0, a1, a2, a3, a4, a5⟩ := ha
    replace a0 : TC qa := a0
    replace a1 : cFr [3, 4] [(2, 2), (2, 3), (2, 4)] q qa := a1
    replace a2 : -1 ≤ x5.toInt := a2
    replace a3 : x5.toInt ≤ 5 := a3
    replace a4 : 0 ≤ x3.toInt := a4
    replace a5 : x3.toInt < upB x5.toInt := a5
    show dOk (zX8_unpack_s2_31b (fun q x3 x5 => k31 (q, x3, x5)) qa x3 x5) _
    unfold zX8_unpack_s2_31b
    refine dOk_lt rfl (by decide : Int32.toInt 0 = 0) (fun c => ?_) (fun c => ?_)
    · have hb : x3.toInt < 32768 := upB_m (by omega) a5
      have e6 : (Int64.toInt32 x3).toInt = x3.toInt := w_i32 (by omega) (by omega)
      have hm := mn_k (b := Int64.toInt32 x3) (show Int32.toInt 6 = 6 by decide)
      refine dOk_L (fun q8 e8 => dOk_some ⟨?_, ?_⟩)
      · show TC q8
        rw [e8]; exact st_2_2 a0 (show (0 : Int) ≤ Int32.toInt (mnI 6 (Int64.toInt32 x3)) by omega) (show Int32.toInt (mnI 6 (Int64.toInt32 x3)) ≤ (6 : Int) by omega)
      · show cFr [3, 4] [(2, 2), (2, 3), (2, 4)] q q8
        rw [e8]; exact a1.f (by decide)
    · refine dOk_G (dg_ok (by omega) (by omega)) (dOk_L (fun q5 e5 => dOk_G (dg_ok (by omega) (by omega)) (dOk_L (fun q7 e7 => ?_))))
      have hT5 : TC q5 := by rw [e5]; exact st_4 a0 (show (0 : Int) ≤ Int32.toInt (Int64.toInt32 (x3 &&& 1)) from (um_1 x3).1) (show Int32.toInt (Int64.toInt32 (x3 &&& 1)) ≤ (1 : Int) from (um_1 x3).2)
      have hT7 : TC q7 := by rw [e7]; exact st_3 hT5 (show (0 : Int) ≤ Int32.toInt (Int64.toInt32 (_ &&& 7)) from (um_7 _).1) (show Int32.toInt (Int64.toInt32 (_ &&& 7)) ≤ (7 : Int) from (um_7 _).2)
      have t1 : Int32.toInt (x5 + (-1)) = x5.toInt + (-1) := ti_add rfl (by decide) (by omega) (by omega)
      have s4 := us_4 x3
      refine hk31 (q7, x3 >>> (Int32.toInt64 (4 : Int32) &&& 63), x5 + (-1)) ⟨hT7, ?_, ?_, ?_, ?_, ?_⟩ ?_
      · show cFr [3, 4] [(2, 2), (2, 3), (2, 4)] q q7
        rw [e7, e5]; exact (a1.i (by decide)).i (by decide)
      · show -1 ≤ Int32.toInt (x5 + (-1)); omega
      · show Int32.toInt (x5 + (-1)) ≤ 5; omega
      · show 0 ≤ (x3 >>> (Int32.toInt64 (4 : Int32) &&& 63)).toInt
        rw [s4]; omega
      · show (x3 >>> (Int32.toInt64 (4 : Int32) &&& 63)).toInt < upB (Int32.toInt (x5 + (-1)))
        rw [s4, t1]
        exact upB_s (by omega) a3 a5
      · show (Int32.toInt (x5 + (-1)) + 1).toNat < (Int32.toInt x5 + 1).toNat
        omega
  · show 0 ≤ (p1 >>> (Int32.toInt64 (24 : Int32) &&& 63)).toInt
    rw [s24]; omega
  · show (p1 >>> (Int32.toInt64 (24 : Int32) &&& 63)).toInt < upB (Int32.toInt 5)
    rw [s24, show Int32.toInt 5 = 5 by decide]
    show p1.toInt / 2 ^ 24 < 549755813888
    omega

theorem ok_X8_unpack_s15 (q : dK) (p1 : Int64) (hT : TC q) (hp0 : 0 ≤ p1.toInt) : dOk (zX8_unpack_s15 q p1) (fun (o : dK) => (TC o) ∧ (cFr [16, 17] [(15, 2), (15, 3), (15, 4)] q o)) := by
  have hmx := p1.toInt_lt
  unfold zX8_unpack_s15
  refine dOk_L (fun q1 e1 => ?_)
  have hT1 : TC q1 := by rw [e1]; exact st_15_4 hT (show (0 : Int) ≤ Int32.toInt (Int64.toInt32 (p1 &&& 1023)) from (um_10 p1).1) (show Int32.toInt (Int64.toInt32 (p1 &&& 1023)) ≤ (1023 : Int) from (um_10 p1).2)
  have hF1 : cFr [16, 17] [(15, 2), (15, 3), (15, 4)] q q1 := by rw [e1]; exact cFr.rf.f (by decide)
  refine dOk_L (fun v2 e2 => dOk_L (fun q3 e3 => ?_))
  have hT3 : TC q3 := by rw [e3, e2]; exact st_15_3 hT1 (show (0 : Int) ≤ Int32.toInt (Int64.toInt32 (_ &&& 16383)) from (um_14 _).1) (show Int32.toInt (Int64.toInt32 (_ &&& 16383)) ≤ (16383 : Int) from (um_14 _).2)
  have hF3 : cFr [16, 17] [(15, 2), (15, 3), (15, 4)] q q3 := by rw [e3]; exact hF1.f (by decide)
  have s24 := us_24 p1
  unfold zX8_unpack_s15_31
  refine dFix_ok (fun (a : dK × Int64 × Int32) => TC a.1 ∧ cFr [16, 17] [(15, 2), (15, 3), (15, 4)] q a.1 ∧ -1 ≤ a.2.2.toInt ∧ a.2.2.toInt ≤ 5 ∧ 0 ≤ a.2.1.toInt ∧ a.2.1.toInt < upB a.2.2.toInt) (fun (a : dK × Int64 × Int32) => (a.2.2.toInt + 1).toNat) ?_ _ ⟨hT3, hF3, by show -1 ≤ Int32.toInt 5; decide, by show Int32.toInt 5 ≤ 5; decide, ?_, ?_⟩ _ (dF_gt (by show (Int32.toInt 5 + 1).toNat < 1000000000000; decide))
  · clear s24
    intro a ha k31 hk31
    obtain ⟨qa, x3, x5⟩ := a
    obtain ⟨a0, a1, a2, a3, a4, a5⟩ := ha
    replace a0 : TC qa := a0
    replace a1 : cFr [16, 17] [(15, 2), (15, 3), (15, 4)] q qa := a1
    replace a2 : -1 ≤ x5.toInt := a2
    replace a3 : x5.toInt ≤ 5 := a3
    replace a4 : 0 ≤ x3.toInt := a4
    replace a5 : x3.toInt < upB x5.toInt := a5
    show dOk (zX8_unpack_s15_31b (fun q x3 x5 => k31 (q, x3, x5)) qa x3 x5) _
    unfold zX8_unpack_s15_31b
    refine dOk_lt rfl (by decide : Int32.toInt 0 = 0) (fun c => ?_) (fun c => ?_)
    · have hb : x3.toInt < 32768 := upB_m (by omega) a5
      have e6 : (Int64.toInt32 x3).toInt = x3.toInt := w_i32 (by omega) (by omega)
      have hm := mn_k (b := Int64.toInt32 x3) (show Int32.toInt 6 = 6 by decide)
      refine dOk_L (fun q8 e8 => dOk_some ⟨?_, ?_⟩)
      · show TC q8
        rw [e8]; exact st_15_2 a0 (show (0 : Int) ≤ Int32.toInt (mnI 6 (Int64.toInt32 x3)) by omega) (show Int32.toInt (mnI 6 (Int64.toInt32 x3)) ≤ (6 : Int) by omega)
      · show cFr [16, 17] [(15, 2), (15, 3), (15, 4)] q q8
        rw [e8]; exact a1.f (by decide)
    · refine dOk_G (dg_ok (by omega) (by omega)) (dOk_L (fun q5 e5 => dOk_G (dg_ok (by omega) (by omega)) (dOk_L (fun q7 e7 => ?_))))
      have hT5 : TC q5 := by rw [e5]; exact st_17 a0 (show (0 : Int) ≤ Int32.toInt (Int64.toInt32 (x3 &&& 1)) from (um_1 x3).1) (show Int32.toInt (Int64.toInt32 (x3 &&& 1)) ≤ (1 : Int) from (um_1 x3).2)
      have hT7 : TC q7 := by rw [e7]; exact st_16 hT5 (show (0 : Int) ≤ Int32.toInt (Int64.toInt32 (_ &&& 7)) from (um_7 _).1) (show Int32.toInt (Int64.toInt32 (_ &&& 7)) ≤ (7 : Int) from (um_7 _).2)
      have t1 : Int32.toInt (x5 + (-1)) = x5.toInt + (-1) := ti_add rfl (by decide) (by omega) (by omega)
      have s4 := us_4 x3
      refine hk31 (q7, x3 >>> (Int32.toInt64 (4 : Int32) &&& 63), x5 + (-1)) ⟨hT7, ?_, ?_, ?_, ?_, ?_⟩ ?_
      · show cFr [16, 17] [(15, 2), (15, 3), (15, 4)] q q7
        rw [e7, e5]; exact (a1.i (by decide)).i (by decide)
      · show -1 ≤ Int32.toInt (x5 + (-1)); omega
      · show Int32.toInt (x5 + (-1)) ≤ 5; omega
      · show 0 ≤ (x3 >>> (Int32.toInt64 (4 : Int32) &&& 63)).toInt
        rw [s4]; omega
      · show (x3 >>> (Int32.toInt64 (4 : Int32) &&& 63)).toInt < upB (Int32.toInt (x5 + (-1)))
        rw [s4, t1]
        exact upB_s (by omega) a3 a5
      · show (Int32.toInt (x5 + (-1)) + 1).toNat < (Int32.toInt x5 + 1).toNat
        omega
  · show 0 ≤ (p1 >>> (Int32.toInt64 (24 : Int32) &&& 63)).toInt
    rw [s24]; omega
  · show (p1 >>> (Int32.toInt64 (24 : Int32) &&& 63)).toInt < upB (Int32.toInt 5)
    rw [s24, show Int32.toInt 5 = 5 by decide]
    show p1.toInt / 2 ^ 24 < 549755813888
    omega

theorem ok_X8_unpack_s50 (q : dK) (p1 : Int64) (hT : TC q) (hp0 : 0 ≤ p1.toInt) : dOk (zX8_unpack_s50 q p1) (fun (o : dK) => (TC o) ∧ (cFr [51, 52] [(50, 2), (50, 3), (50, 4)] q o)) := by
  have hmx := p1.toInt_lt
  unfold zX8_unpack_s50
  refine dOk_L (fun q1 e1 => ?_)
  have hT1 : TC q1 := by rw [e1]; exact st_50_4 hT (show (0 : Int) ≤ Int32.toInt (Int64.toInt32 (p1 &&& 1023)) from (um_10 p1).1) (show Int32.toInt (Int64.toInt32 (p1 &&& 1023)) ≤ (1023 : Int) from (um_10 p1).2)
  have hF1 : cFr [51, 52] [(50, 2), (50, 3), (50, 4)] q q1 := by rw [e1]; exact cFr.rf.f (by decide)
  refine dOk_L (fun v2 e2 => dOk_L (fun q3 e3 => ?_))
  have hT3 : TC q3 := by rw [e3, e2]; exact st_50_3 hT1 (show (0 : Int) ≤ Int32.toInt (Int64.toInt32 (_ &&& 16383)) from (um_14 _).1) (show Int32.toInt (Int64.toInt32 (_ &&& 16383)) ≤ (16383 : Int) from (um_14 _).2)
  have hF3 : cFr [51, 52] [(50, 2), (50, 3), (50, 4)] q q3 := by rw [e3]; exact hF1.f (by decide)
  have s24 := us_24 p1
  unfold zX8_unpack_s50_31
  refine dFix_ok (fun (a : dK × Int64 × Int32) => TC a.1 ∧ cFr [51, 52] [(50, 2), (50, 3), (50, 4)] q a.1 ∧ -1 ≤ a.2.2.toInt ∧ a.2.2.toInt ≤ 5 ∧ 0 ≤ a.2.1.toInt ∧ a.2.1.toInt < upB a.2.2.toInt) (fun (a : dK × Int64 × Int32) => (a.2.2.toInt + 1).toNat) ?_ _ ⟨hT3, hF3, by show -1 ≤ Int32.toInt 5; decide, by show Int32.toInt 5 ≤ 5; decide, ?_, ?_⟩ _ (dF_gt (by show (Int32.toInt 5 + 1).toNat < 1000000000000; decide))
  · clear s24
    intro a ha k31 hk31
    obtain ⟨qa, x3, x5⟩ := a
    obtain ⟨a0, a1, a2, a3, a4, a5⟩ := ha
    replace a0 : TC qa := a0
    replace a1 : cFr [51, 52] [(50, 2), (50, 3), (50, 4)] q qa := a1
    replace a2 : -1 ≤ x5.toInt := a2
    replace a3 : x5.toInt ≤ 5 := a3
    replace a4 : 0 ≤ x3.toInt := a4
    replace a5 : x3.toInt < upB x5.toInt := a5
    show dOk (zX8_unpack_s50_31b (fun q x3 x5 => k31 (q, x3, x5)) qa x3 x5) _
    unfold zX8_unpack_s50_31b
    refine dOk_lt rfl (by decide : Int32.toInt 0 = 0) (fun c => ?_) (fun c => ?_)
    · have hb : x3.toInt < 32768 := upB_m (by omega) a5
      have e6 : (Int64.toInt32 x3).toInt = x3.toInt := w_i32 (by omega) (by omega)
      have hm := mn_k (b := Int64.toInt32 x3) (show Int32.toInt 6 = 6 by decide)
      refine dOk_L (fun q8 e8 => dOk_some ⟨?_, ?_⟩)
      · show TC q8
        rw [e8]; exact st_50_2 a0 (show (0 : Int) ≤ Int32.toInt (mnI 6 (Int64.toInt32 x3)) by omega) (show Int32.toInt (mnI 6 (Int64.toInt32 x3)) ≤ (6 : Int) by omega)
      · show cFr [51, 52] [(50, 2), (50, 3), (50, 4)] q q8
        rw [e8]; exact a1.f (by decide)
    · refine dOk_G (dg_ok (by omega) (by omega)) (dOk_L (fun q5 e5 => dOk_G (dg_ok (by omega) (by omega)) (dOk_L (fun q7 e7 => ?_))))
      have hT5 : TC q5 := by rw [e5]; exact st_52 a0 (show (0 : Int) ≤ Int32.toInt (Int64.toInt32 (x3 &&& 1)) from (um_1 x3).1) (show Int32.toInt (Int64.toInt32 (x3 &&& 1)) ≤ (1 : Int) from (um_1 x3).2)
      have hT7 : TC q7 := by rw [e7]; exact st_51 hT5 (show (0 : Int) ≤ Int32.toInt (Int64.toInt32 (_ &&& 7)) from (um_7 _).1) (show Int32.toInt (Int64.toInt32 (_ &&& 7)) ≤ (7 : Int) from (um_7 _).2)
      have t1 : Int32.toInt (x5 + (-1)) = x5.toInt + (-1) := ti_add rfl (by decide) (by omega) (by omega)
      have s4 := us_4 x3
      refine hk31 (q7, x3 >>> (Int32.toInt64 (4 : Int32) &&& 63), x5 + (-1)) ⟨hT7, ?_, ?_, ?_, ?_, ?_⟩ ?_
      · show cFr [51, 52] [(50, 2), (50, 3), (50, 4)] q q7
        rw [e7, e5]; exact (a1.i (by decide)).i (by decide)
      · show -1 ≤ Int32.toInt (x5 + (-1)); omega
      · show Int32.toInt (x5 + (-1)) ≤ 5; omega
      · show 0 ≤ (x3 >>> (Int32.toInt64 (4 : Int32) &&& 63)).toInt
        rw [s4]; omega
      · show (x3 >>> (Int32.toInt64 (4 : Int32) &&& 63)).toInt < upB (Int32.toInt (x5 + (-1)))
        rw [s4, t1]
        exact upB_s (by omega) a3 a5
      · show (Int32.toInt (x5 + (-1)) + 1).toNat < (Int32.toInt x5 + 1).toNat
        omega
  · show 0 ≤ (p1 >>> (Int32.toInt64 (24 : Int32) &&& 63)).toInt
    rw [s24]; omega
  · show (p1 >>> (Int32.toInt64 (24 : Int32) &&& 63)).toInt < upB (Int32.toInt 5)
    rw [s24, show Int32.toInt 5 = 5 by decide]
    show p1.toInt / 2 ^ 24 < 549755813888
    omega

theorem ok_X8_unpack_s57 (q : dK) (p1 : Int64) (hT : TC q) (hp0 : 0 ≤ p1.toInt) : dOk (zX8_unpack_s57 q p1) (fun (o : dK) => (TC o) ∧ (cFr [58, 59] [(57, 2), (57, 3), (57, 4)] q o)) := by
  have hmx := p1.toInt_lt
  unfold zX8_unpack_s57
  refine dOk_L (fun q1 e1 => ?_)
  have hT1 : TC q1 := by rw [e1]; exact st_57_4 hT (show (0 : Int) ≤ Int32.toInt (Int64.toInt32 (p1 &&& 1023)) from (um_10 p1).1) (show Int32.toInt (Int64.toInt32 (p1 &&& 1023)) ≤ (1023 : Int) from (um_10 p1).2)
  have hF1 : cFr [58, 59] [(57, 2), (57, 3), (57, 4)] q q1 := by rw [e1]; exact cFr.rf.f (by decide)
  refine dOk_L (fun v2 e2 => dOk_L (fun q3 e3 => ?_))
  have hT3 : TC q3 := by rw [e3, e2]; exact st_57_3 hT1 (show (0 : Int) ≤ Int32.toInt (Int64.toInt32 (_ &&& 16383)) from (um_14 _).1) (show Int32.toInt (Int64.toInt32 (_ &&& 16383)) ≤ (16383 : Int) from (um_14 _).2)
  have hF3 : cFr [58, 59] [(57, 2), (57, 3), (57, 4)] q q3 := by rw [e3]; exact hF1.f (by decide)
  have s24 := us_24 p1
  unfold zX8_unpack_s57_31
  refine dFix_ok (fun (a : dK × Int64 × Int32) => TC a.1 ∧ cFr [58, 59] [(57, 2), (57, 3), (57, 4)] q a.1 ∧ -1 ≤ a.2.2.toInt ∧ a.2.2.toInt ≤ 5 ∧ 0 ≤ a.2.1.toInt ∧ a.2.1.toInt < upB a.2.2.toInt) (fun (a : dK × Int64 × Int32) => (a.2.2.toInt + 1).toNat) ?_ _ ⟨hT3, hF3, by show -1 ≤ Int32.toInt 5; decide, by show Int32.toInt 5 ≤ 5; decide, ?_, ?_⟩ _ (dF_gt (by show (Int32.toInt 5 + 1).toNat < 1000000000000; decide))
  · clear s24
    intro a ha k31 hk31
    obtain ⟨qa, x3, x5⟩ := a
    obtain ⟨a0, a1, a2, a3, a4, a5⟩ := ha
    replace a0 : TC qa := a0
    replace a1 : cFr [58, 59] [(57, 2), (57, 3), (57, 4)] q qa := a1
    replace a2 : -1 ≤ x5.toInt := a2
    replace a3 : x5.toInt ≤ 5 := a3
    replace a4 : 0 ≤ x3.toInt := a4
    replace a5 : x3.toInt < upB x5.toInt := a5
    show dOk (zX8_unpack_s57_31b (fun q x3 x5 => k31 (q, x3, x5)) qa x3 x5) _
    unfold zX8_unpack_s57_31b
    refine dOk_lt rfl (by decide : Int32.toInt 0 = 0) (fun c => ?_) (fun c => ?_)
    · have hb : x3.toInt < 32768 := upB_m (by omega) a5
      have e6 : (Int64.toInt32 x3).toInt = x3.toInt := w_i32 (by omega) (by omega)
      have hm := mn_k (b := Int64.toInt32 x3) (show Int32.toInt 6 = 6 by decide)
      refine dOk_L (fun q8 e8 => dOk_some ⟨?_, ?_⟩)
      · show TC q8
        rw [e8]; exact st_57_2 a0 (show (0 : Int) ≤ Int32.toInt (mnI 6 (Int64.toInt32 x3)) by omega) (show Int32.toInt (mnI 6 (Int64.toInt32 x3)) ≤ (6 : Int) by omega)
      · show cFr [58, 59] [(57, 2), (57, 3), (57, 4)] q q8
        rw [e8]; exact a1.f (by decide)
    · refine dOk_G (dg_ok (by omega) (by omega)) (dOk_L (fun q5 e5 => dOk_G (dg_ok (by omega) (by omega)) (dOk_L (fun q7 e7 => ?_))))
      have hT5 : TC q5 := by rw [e5]; exact st_59 a0 (show (0 : Int) ≤ Int32.toInt (Int64.toInt32 (x3 &&& 1)) from (um_1 x3).1) (show Int32.toInt (Int64.toInt32 (x3 &&& 1)) ≤ (1 : Int) from (um_1 x3).2)
      have hT7 : TC q7 := by rw [e7]; exact st_58 hT5 (show (0 : Int) ≤ Int32.toInt (Int64.toInt32 (_ &&& 7)) from (um_7 _).1) (show Int32.toInt (Int64.toInt32 (_ &&& 7)) ≤ (7 : Int) from (um_7 _).2)
      have t1 : Int32.toInt (x5 + (-1)) = x5.toInt + (-1) := ti_add rfl (by decide) (by omega) (by omega)
      have s4 := us_4 x3
      refine hk31 (q7, x3 >>> (Int32.toInt64 (4 : Int32) &&& 63), x5 + (-1)) ⟨hT7, ?_, ?_, ?_, ?_, ?_⟩ ?_
      · show cFr [58, 59] [(57, 2), (57, 3), (57, 4)] q q7
        rw [e7, e5]; exact (a1.i (by decide)).i (by decide)
      · show -1 ≤ Int32.toInt (x5 + (-1)); omega
      · show Int32.toInt (x5 + (-1)) ≤ 5; omega
      · show 0 ≤ (x3 >>> (Int32.toInt64 (4 : Int32) &&& 63)).toInt
        rw [s4]; omega
      · show (x3 >>> (Int32.toInt64 (4 : Int32) &&& 63)).toInt < upB (Int32.toInt (x5 + (-1)))
        rw [s4, t1]
        exact upB_s (by omega) a3 a5
      · show (Int32.toInt (x5 + (-1)) + 1).toNat < (Int32.toInt x5 + 1).toNat
        omega
  · show 0 ≤ (p1 >>> (Int32.toInt64 (24 : Int32) &&& 63)).toInt
    rw [s24]; omega
  · show (p1 >>> (Int32.toInt64 (24 : Int32) &&& 63)).toInt < upB (Int32.toInt 5)
    rw [s24, show Int32.toInt 5 = 5 by decide]
    show p1.toInt / 2 ^ 24 < 549755813888
    omega
