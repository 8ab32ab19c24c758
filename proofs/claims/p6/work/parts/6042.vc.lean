theorem cd_0 {v x : Int32} (h0 : 0 ≤ v.toInt) (h1 : v.toInt ≤ 5) (hx : x.toInt = 0) : cD (0 ||| (v <<< (((3 * x : Int32) : Int32) &&& 31))) := by
  obtain ⟨n, rfl, hn, -⟩ := ti_nI h0
  have e : x = 0 := Int32.toInt_inj.mp hx
  subst e
  have h : ∀ n : Nat, n < 6 → ((0 ||| (nI n <<< (((3 * 0 : Int32) : Int32) &&& 31))) &&& 7 : Int32).toInt ≤ 5 := by decide +kernel
  exact h n (by omega)
theorem cd_sh (v : Int32) (s : Int32) (k : Nat) (hs : (s.toBitVec.smod 32).toNat = k + 3) : (v <<< s).toBitVec.toNat % 2 ^ 3 = 0 := by
  have e : (v <<< s).toBitVec.toNat = (v.toBitVec.toNat <<< (k + 3)) % 2 ^ 32 := by
    show (v.toBitVec <<< (s.toBitVec.smod 32)).toNat = _
    rw [BitVec.shiftLeft_eq', BitVec.toNat_shiftLeft, hs]
  rw [e, Nat.shiftLeft_eq, Nat.mod_mod_of_dvd _ (Nat.pow_dvd_pow 2 (by decide : 3 ≤ 32)), Nat.pow_add, ← Nat.mul_assoc]
  exact Nat.mul_mod_left _ _
theorem cd_or {w v x : Int32} (h : cD w) (h0 : 1 ≤ x.toInt) (h1 : x.toInt ≤ 5) : cD (w ||| (v <<< (((3 * x : Int32) : Int32) &&& 31))) := by
  have hz : (v <<< (((3 * x : Int32) : Int32) &&& 31)).toBitVec.toNat % 2 ^ 3 = 0 := by
    obtain ⟨n, rfl, hn, -⟩ := ti_nI (x := x) (by omega)
    have hk : ∀ n : Nat, n < 6 → 1 ≤ n → (((3 * nI n : Int32) &&& 31).toBitVec.smod 32).toNat = (3 * n - 3) + 3 := by decide +kernel
    exact cd_sh v _ (3 * n - 3) (hk n (by omega) (by omega))
  unfold cD at h ⊢
  rw [pk_and w (m := 7) 3 (by decide)] at h
  rw [pk_and _ (m := 7) 3 (by decide)]
  have e : (w ||| (v <<< (((3 * x : Int32) : Int32) &&& 31))).toBitVec.toNat = w.toBitVec.toNat ||| (v <<< (((3 * x : Int32) : Int32) &&& 31)).toBitVec.toNat := by
    show (w.toBitVec ||| (v <<< (((3 * x : Int32) : Int32) &&& 31)).toBitVec).toNat = _
    rw [BitVec.toNat_or]
  rw [e, Nat.or_mod_two_pow, hz, Nat.or_zero]
  exact h
/-- of the orders' digits those of one order alone change -/
def R39 (q : dK) (p : Int32) (o : dK) : Prop := ∀ i : Nat, ¬ i = Int32.toNatClampNeg p → o.1 39 i = q.1 39 i
theorem ok_X3_listOrder_s32 (q : dK) (p1 : Int32) (hT : TC q) (hp0 : 0 ≤ Int32.toInt p1) (hp1 : Int32.toInt p1 < Int32.toInt (q.1 32 100)) (hp2 : Int32.toInt (q.1 32 101) = 6 * Int32.toInt (q.1 32 100)) (hp3 : Int32.toInt (q.1 32 100) ≤ 720) (hp4 : q.1 39 (Int32.toNatClampNeg p1) = 0) : dOk (zX3_listOrder_s32 q p1) (fun (o : dK) => (TC o) ∧ (cFr [34, 39, 40] [] q o) ∧ R39 q p1 o) := by
  have hfl := rg_32_13 hT
  unfold zX3_listOrder_s32
  refine dOk_V (ok_X3_setDigits_s32 q p1 hT hp0) (fun q3 h => ?_)
  obtain ⟨hT3, hF3, d0, d1⟩ := h
  replace hT3 : TC q3 := hT3
  replace hF3 : cFr [34] [] q q3 := hF3
  replace d0 : 0 ≤ Int32.toInt (q3.1 34 0) := d0
  replace d1 : Int32.toInt (q3.1 34 0) ≤ 5 := d1
  have n1 := cl_eq hp0
  unfold zX3_listOrder_s32_7
  refine dFix_ok (fun (a : dK × Int32 × Int32) => TC a.1 ∧ cFr [34, 39, 40] [] q a.1 ∧ a.2.1 = p1 ∧ 0 ≤ a.2.2.toInt ∧ a.2.2.toInt ≤ 6 ∧ R39 q p1 a.1 ∧ (a.1.1 34 0 = q3.1 34 0) ∧ (a.2.2.toInt = 0 → a.1.1 39 (Int32.toNatClampNeg p1) = 0)) (fun (a : dK × Int32 × Int32) => (6 - a.2.2.toInt).toNat) ?_ _ ⟨hT3, cFr.rf.t hF3 (by decide) (by decide), rfl, by show 0 ≤ Int32.toInt 0; decide, by show Int32.toInt 0 ≤ 6; decide, fun i _ => hF3.1 39 i (by decide) List.not_mem_nil, rfl, fun _ => (hF3.1 39 _ (by decide) List.not_mem_nil).trans hp4⟩ _ (dF_gt (by show (6 - Int32.toInt 0).toNat < 1000000000000; decide))
  intro a ha k7 hk7
  obtain ⟨qa, x1, x2⟩ := a
  obtain ⟨a0, a1, a2, a3, a4, a5, a6, a7⟩ := ha
  replace a0 : TC qa := a0
  replace a1 : cFr [34, 39, 40] [] q qa := a1
  replace a2 : p1 = x1 := Eq.symm a2
  replace a3 : 0 ≤ x2.toInt := a3
  replace a4 : x2.toInt ≤ 6 := a4
  replace a5 : R39 q p1 qa := a5
  replace a6 : qa.1 34 0 = q3.1 34 0 := a6
  replace a7 : x2.toInt = 0 → qa.1 39 (Int32.toNatClampNeg p1) = 0 := a7
  subst a2
  have w100 : qa.1 32 100 = q.1 32 100 := a1.1 32 100 (by decide) (by decide)
  show dOk (zX3_listOrder_s32_7b (fun q x1 x2 => k7 (q, x1, x2)) qa p1 x2) _
  unfold zX3_listOrder_s32_7b
  refine dOk_le (by decide : Int32.toInt 6 = 6) rfl (fun c => ?_) (fun c => ?_)
  · unfold zX3_listOrder_s32_40
    refine dFix_ok (fun (a : dK × Int32 × Int32) => TC a.1 ∧ cFr [34, 39, 40] [] q a.1 ∧ a.2.1 = p1 ∧ 1 ≤ a.2.2.toInt ∧ a.2.2.toInt ≤ 7 ∧ R39 q p1 a.1) (fun (a : dK × Int32 × Int32) => (7 - a.2.2.toInt).toNat) ?_ _ ⟨a0, a1, rfl, by show 1 ≤ Int32.toInt 1; decide, by show Int32.toInt 1 ≤ 7; decide, a5⟩ _ (dF_gt (by show (7 - Int32.toInt 1).toNat < 1000000000000; decide))
    intro a ha k40 hk40
    obtain ⟨qb, y1, y2⟩ := a
    obtain ⟨b0, b1, b2, b3, b4, b5⟩ := ha
    replace b0 : TC qb := b0
    replace b1 : cFr [34, 39, 40] [] q qb := b1
    replace b2 : p1 = y1 := Eq.symm b2
    replace b3 : 1 ≤ y2.toInt := b3
    replace b4 : y2.toInt ≤ 7 := b4
    replace b5 : R39 q p1 qb := b5
    subst b2
    have w13 : qb.1 32 13 = q.1 32 13 := b1.1 32 13 (by decide) (by decide)
    show dOk (zX3_listOrder_s32_40b (fun q x1 x2 => k40 (q, x1, x2)) qb p1 y2) _
    unfold zX3_listOrder_s32_40b
    refine dOk_lt rfl rfl (fun c2 => dOk_some ⟨b0, b1, b5⟩) (fun c2 => ?_)
    rw [w13] at c2
    refine dOk_V (ok_X3_setDigits_s32 qb p1 b0 hp0) (fun q5 h5 => ?_)
    obtain ⟨hT5, hF5, -, -⟩ := h5
    replace hT5 : TC q5 := hT5
    replace hF5 : cFr [34] [] qb q5 := hF5
    unfold zX3_listOrder_s32_60
    have u1 : Int32.toInt (y2 - 1) = y2.toInt - 1 := ti_sub rfl (by decide) (by omega) (by omega)
    obtain ⟨ym, hym⟩ : ∃ y : Int32, y2 - 1 = y := ⟨_, rfl⟩
    rw [hym] at u1 ⊢
    clear hym
    refine dFix_ok (fun (a : dK × Int32 × Int32 × Int32 × Int32) => TC a.1 ∧ cFr [34, 39, 40] [] q a.1 ∧ a.2.1 = p1 ∧ a.2.2.1 = y2 ∧ 0 ≤ a.2.2.2.1.toInt ∧ -1 ≤ a.2.2.2.2.toInt ∧ a.2.2.2.2.toInt ≤ 5 ∧ a.2.2.2.1.toInt ≤ 6 ∧ R39 q p1 a.1) (fun (a : dK × Int32 × Int32 × Int32 × Int32) => (6 - a.2.2.2.1.toInt).toNat) ?_ _ ⟨hT5, b1.t hF5 (by decide) (by decide), rfl, rfl, by show 0 ≤ Int32.toInt 0; decide, by show -1 ≤ Int32.toInt ym; omega, by show Int32.toInt ym ≤ 5; omega, by show Int32.toInt 0 ≤ 6; decide, fun i hi => (hF5.1 39 i (by decide) List.not_mem_nil).trans (b5 i hi)⟩ _ (dF_gt (by show (6 - Int32.toInt 0).toNat < 1000000000000; decide))
    intro a ha k60 hk60
    obtain ⟨qc, z1, z2, x3, x4⟩ := a
    obtain ⟨e0, e1, e2, e3, e4, e5, e6, e7, e8⟩ := ha
    replace e0 : TC qc := e0
    replace e1 : cFr [34, 39, 40] [] q qc := e1
    replace e2 : p1 = z1 := Eq.symm e2
    replace e3 : y2 = z2 := Eq.symm e3
    replace e4 : 0 ≤ x3.toInt := e4
    replace e5 : -1 ≤ x4.toInt := e5
    replace e6 : x4.toInt ≤ 5 := e6
    replace e7 : x3.toInt ≤ 6 := e7
    replace e8 : R39 q p1 qc := e8
    subst e2 e3
    show dOk (zX3_listOrder_s32_60b (fun q x1 x2 => k40 (q, x1, x2)) (fun q x1 x2 x3 x4 => k60 (q, x1, x2, x3, x4)) qc p1 y2 x3 x4) _
    unfold zX3_listOrder_s32_60b
    refine dOk_le rfl rfl (fun c3 => ?_) (fun c3 => ?_)
    · refine dOk_B (ok_X3_numberOfOrder_s32 qc e0) (fun r1 q6 h6 => ?_)
      obtain ⟨h6, h7, h8⟩ := h6
      replace h6 : qc = q6 := Eq.symm h6
      replace h7 : 0 ≤ Int32.toInt r1 := h7
      replace h8 : Int32.toInt r1 ≤ 719 := h8
      subst h6
      have w101 : qc.1 32 101 = q.1 32 101 := e1.1 32 101 (by decide) (by decide)
      have t1 : Int32.toInt (p1 * 6) = p1.toInt * 6 := ti_mul rfl (by decide) (by omega) (by omega)
      have t2 : Int32.toInt (p1 * 6 + y2) = p1.toInt * 6 + y2.toInt := ti_add t1 rfl (by omega) (by omega)
      have t3 : Int32.toInt (p1 * 6 + y2 - 1) = p1.toInt * 6 + y2.toInt - 1 := ti_sub t2 (by decide) (by omega) (by omega)
      have t5 : Int32.toInt (y2 + 1) = y2.toInt + 1 := ti_add rfl (by decide) (by omega) (by omega)
      obtain ⟨ix, hix⟩ : ∃ y : Int32, p1 * 6 + y2 - 1 = y := ⟨_, rfl⟩
      rw [hix] at t3 ⊢
      clear hix
      refine dOk_G (dg_ok (by omega) (by rw [w101, cl_eq (by omega)]; omega)) (dOk_L (fun q7 eq7 => ?_))
      refine hk40 (q7, p1, y2 + 1) ⟨by rw [eq7]; exact st_40 e0 h7 h8, by rw [eq7]; exact e1.i (by decide), rfl, by show 1 ≤ Int32.toInt (y2 + 1); omega, by show Int32.toInt (y2 + 1) ≤ 7; omega, fun i hi => by rw [eq7, cui_o (by decide)]; exact e8 i hi⟩ (by show (7 - Int32.toInt (y2 + 1)).toNat < (7 - Int32.toInt y2).toNat; omega)
    · have t3 : Int32.toInt (x3 + 1) = x3.toInt + 1 := ti_add rfl (by decide) (by omega) (by omega)
      have t4 : Int32.toInt (x4 + (-1)) = x4.toInt + (-1) := ti_add rfl (by decide) (by omega) (by omega)
      obtain ⟨xm, hxm⟩ : ∃ y : Int32, x4 + (-1) = y := ⟨_, rfl⟩
      rw [hxm] at t4 ⊢
      clear hxm
      refine dOk_G (dg_ok (by omega) (by omega)) (dOk_L (fun v7 _ => dOk_G (dg_ok (by omega) (by omega)) (dOk_L (fun v9 _ => dOk_G (dg_ok (by omega) (by omega)) (dOk_L (fun q11 eq11 => dOk_G (dg_ok (by omega) (by omega)) (dOk_L (fun q13 eq13 => ?_))))))))
      refine hk60 (q13, p1, y2, x3 + 1, xm) ⟨by rw [eq13, eq11]; exact sa_34 (sa_34 e0), by rw [eq13, eq11]; exact (e1.i (by decide)).i (by decide), rfl, rfl, by show 0 ≤ Int32.toInt (x3 + 1); omega, by show -1 ≤ Int32.toInt xm; omega, by show Int32.toInt xm ≤ 5; omega, by show Int32.toInt (x3 + 1) ≤ 6; omega, fun i hi => by rw [eq13, eq11, cui_o (by decide), cui_o (by decide)]; exact e8 i hi⟩ (by show (6 - Int32.toInt (x3 + 1)).toNat < (6 - Int32.toInt x3).toNat; omega)
  · have hg : Int32.toInt p1 < ((Int32.toNatClampNeg (qa.1 32 100) : Nat) : Int) := by rw [w100, cl_eq (by omega)]; exact hp1
    refine dOk_G (dg_ok hp0 hg) (dOk_L (fun v2 e2 => dOk_G (dg_ok a3 (by omega)) (dOk_L (fun v4 e4 => dOk_G (dg_ok hp0 hg) (dOk_L (fun q6 eq6 => ?_))))))
    have n2 := cl_eq a3
    have t2 : Int32.toInt (x2 + 1) = x2.toInt + 1 := ti_add rfl (by decide) (by omega) (by omega)
    have hD : cD (v2 ||| (v4 <<< (((3 * x2 : Int32) : Int32) &&& 31))) := by
      by_cases c2 : x2.toInt = 0
      · have e0 : Int32.toNatClampNeg x2 = 0 := by omega
        rw [e0, a6] at e4
        rw [a7 c2] at e2
        rw [e2]
        exact cd_0 (by rw [e4]; exact d0) (by rw [e4]; exact d1) c2
      · exact cd_or (by rw [e2]; exact (a0.2.1.2 _).2.2.2.2) (by omega) (by omega)
    refine hk7 (q6, p1, x2 + 1) ⟨by rw [eq6]; exact st_39 a0 hD, by rw [eq6]; exact a1.i (by decide), rfl, by show 0 ≤ Int32.toInt (x2 + 1); omega, by show Int32.toInt (x2 + 1) ≤ 6; omega, fun i hi => by rw [eq6, cui_n hi]; exact a5 i hi, by show q6.1 34 0 = q3.1 34 0; rw [eq6, cui_o (by decide)]; exact a6, fun z => absurd z (by show ¬ Int32.toInt (x2 + 1) = 0; omega)⟩ (by show (6 - Int32.toInt (x2 + 1)).toNat < (6 - Int32.toInt x2).toNat; omega)
theorem ti_or0 (x : Int32) : (x ||| 0).toInt = x.toInt := by
  first | rw [Int32.or_zero] | simp
